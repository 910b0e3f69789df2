section
-- ===== PART A: goes FIRST, ahead of the names: the tables' words, and 'selects' of the private methods out of them =====
/-- a private method of a class that the tables say can be made, by its rows of tables_1 -/
def lw_okq (q : MethodName × Nat) : Prop := (q.1.cls ≠ "java/lang/invoke/MethodHandle" ∧ q.1.cls ≠ "java/lang/invoke/VarHandle") ∧ Cond.instantiable q.1.cls q.2 ∈ tables_1 ∧ Cond.privateMethod q.1 ∈ tables_1 ∧ Cond.instanceMethod q.1 ∈ tables_1
theorem lw_p0 : lw_okq (⟨"java/lang/Throwable", "fillInStackTrace", "(I)Ljava/lang/Throwable;"⟩, 6) := ⟨⟨by decide +kernel, by decide +kernel⟩, List.mem_of_getElem? (i := 123) (by decide +kernel), List.mem_of_getElem? (i := 121) (by decide +kernel), List.mem_of_getElem? (i := 122) (by decide +kernel)⟩
theorem lw_p1 : lw_okq (⟨"Conformary", "actAt", "(I)LConformary$Act;"⟩, 11) := ⟨⟨by decide +kernel, by decide +kernel⟩, List.mem_of_getElem? (i := 17) (by decide +kernel), List.mem_of_getElem? (i := 199) (by decide +kernel), List.mem_of_getElem? (i := 200) (by decide +kernel)⟩
theorem lw_p2 : lw_okq (⟨"Conformary", "actsMoreSpecialThan", "(LConformary$Act;)I"⟩, 11) := ⟨⟨by decide +kernel, by decide +kernel⟩, List.mem_of_getElem? (i := 17) (by decide +kernel), List.mem_of_getElem? (i := 220) (by decide +kernel), List.mem_of_getElem? (i := 221) (by decide +kernel)⟩
theorem lw_p3 : lw_okq (⟨"Conformary", "standardAt", "(I)LConformary$Standard;"⟩, 11) := ⟨⟨by decide +kernel, by decide +kernel⟩, List.mem_of_getElem? (i := 17) (by decide +kernel), List.mem_of_getElem? (i := 260) (by decide +kernel), List.mem_of_getElem? (i := 261) (by decide +kernel)⟩
theorem lw_p4 : lw_okq (⟨"Conformary", "productAt", "(I)LConformary$Product;"⟩, 11) := ⟨⟨by decide +kernel, by decide +kernel⟩, List.mem_of_getElem? (i := 17) (by decide +kernel), List.mem_of_getElem? (i := 337) (by decide +kernel), List.mem_of_getElem? (i := 338) (by decide +kernel)⟩
theorem lw_p5 : lw_okq (⟨"Conformary", "firstLack", "(LConformary$Product;)I"⟩, 11) := ⟨⟨by decide +kernel, by decide +kernel⟩, List.mem_of_getElem? (i := 17) (by decide +kernel), List.mem_of_getElem? (i := 382) (by decide +kernel), List.mem_of_getElem? (i := 383) (by decide +kernel)⟩
theorem lw_p6 : lw_okq (⟨"Conformary", "hazardsDemanded", "(LConformary$Product;)I"⟩, 11) := ⟨⟨by decide +kernel, by decide +kernel⟩, List.mem_of_getElem? (i := 17) (by decide +kernel), List.mem_of_getElem? (i := 386) (by decide +kernel), List.mem_of_getElem? (i := 387) (by decide +kernel)⟩
theorem lw_p7 : lw_okq (⟨"Conformary", "actsApplyingTo", "(LConformary$Product;)I"⟩, 11) := ⟨⟨by decide +kernel, by decide +kernel⟩, List.mem_of_getElem? (i := 17) (by decide +kernel), List.mem_of_getElem? (i := 390) (by decide +kernel), List.mem_of_getElem? (i := 391) (by decide +kernel)⟩
theorem lw_p8 : lw_okq (⟨"Conformary", "actsForByThemselves", "(LConformary$Product;)I"⟩, 11) := ⟨⟨by decide +kernel, by decide +kernel⟩, List.mem_of_getElem? (i := 17) (by decide +kernel), List.mem_of_getElem? (i := 394) (by decide +kernel), List.mem_of_getElem? (i := 395) (by decide +kernel)⟩
theorem lw_p9 : lw_okq (⟨"Conformary", "wayOf", "(LConformary$Product;I)I"⟩, 11) := ⟨⟨by decide +kernel, by decide +kernel⟩, List.mem_of_getElem? (i := 17) (by decide +kernel), List.mem_of_getElem? (i := 409) (by decide +kernel), List.mem_of_getElem? (i := 410) (by decide +kernel)⟩
theorem lw_p10 : lw_okq (⟨"Conformary", "hazardsKept", "(LConformary$Product;I)I"⟩, 11) := ⟨⟨by decide +kernel, by decide +kernel⟩, List.mem_of_getElem? (i := 17) (by decide +kernel), List.mem_of_getElem? (i := 423) (by decide +kernel), List.mem_of_getElem? (i := 424) (by decide +kernel)⟩
theorem lw_p11 : lw_okq (⟨"Conformary", "holdsCertificate", "(LConformary$Product;)Z"⟩, 11) := ⟨⟨by decide +kernel, by decide +kernel⟩, List.mem_of_getElem? (i := 17) (by decide +kernel), List.mem_of_getElem? (i := 431) (by decide +kernel), List.mem_of_getElem? (i := 432) (by decide +kernel)⟩
theorem lw_p12 : lw_okq (⟨"Conformary", "bodyAt", "(I)LConformary$Body;"⟩, 11) := ⟨⟨by decide +kernel, by decide +kernel⟩, List.mem_of_getElem? (i := 17) (by decide +kernel), List.mem_of_getElem? (i := 484) (by decide +kernel), List.mem_of_getElem? (i := 485) (by decide +kernel)⟩
theorem lw_p13 : lw_okq (⟨"Conformary", "checkMayCertify", "(LConformary$Body;LConformary$Product;)V"⟩, 11) := ⟨⟨by decide +kernel, by decide +kernel⟩, List.mem_of_getElem? (i := 17) (by decide +kernel), List.mem_of_getElem? (i := 497) (by decide +kernel), List.mem_of_getElem? (i := 498) (by decide +kernel)⟩
theorem lw_p14 : lw_okq (⟨"Conformary", "addBatch", "(ILConformary$Product;I)I"⟩, 11) := ⟨⟨by decide +kernel, by decide +kernel⟩, List.mem_of_getElem? (i := 17) (by decide +kernel), List.mem_of_getElem? (i := 527) (by decide +kernel), List.mem_of_getElem? (i := 528) (by decide +kernel)⟩
theorem lw_p15 : lw_okq (⟨"Conformary", "batchAt", "(I)LConformary$Batch;"⟩, 11) := ⟨⟨by decide +kernel, by decide +kernel⟩, List.mem_of_getElem? (i := 17) (by decide +kernel), List.mem_of_getElem? (i := 588) (by decide +kernel), List.mem_of_getElem? (i := 589) (by decide +kernel)⟩
def lw_privs_1 : List (MethodName × Nat) := [(⟨"java/lang/Throwable", "fillInStackTrace", "(I)Ljava/lang/Throwable;"⟩, 6), (⟨"Conformary", "actAt", "(I)LConformary$Act;"⟩, 11), (⟨"Conformary", "actsMoreSpecialThan", "(LConformary$Act;)I"⟩, 11), (⟨"Conformary", "standardAt", "(I)LConformary$Standard;"⟩, 11), (⟨"Conformary", "productAt", "(I)LConformary$Product;"⟩, 11), (⟨"Conformary", "firstLack", "(LConformary$Product;)I"⟩, 11), (⟨"Conformary", "hazardsDemanded", "(LConformary$Product;)I"⟩, 11), (⟨"Conformary", "actsApplyingTo", "(LConformary$Product;)I"⟩, 11), (⟨"Conformary", "actsForByThemselves", "(LConformary$Product;)I"⟩, 11), (⟨"Conformary", "wayOf", "(LConformary$Product;I)I"⟩, 11), (⟨"Conformary", "hazardsKept", "(LConformary$Product;I)I"⟩, 11), (⟨"Conformary", "holdsCertificate", "(LConformary$Product;)Z"⟩, 11), (⟨"Conformary", "bodyAt", "(I)LConformary$Body;"⟩, 11), (⟨"Conformary", "checkMayCertify", "(LConformary$Body;LConformary$Product;)V"⟩, 11), (⟨"Conformary", "addBatch", "(ILConformary$Product;I)I"⟩, 11), (⟨"Conformary", "batchAt", "(I)LConformary$Batch;"⟩, 11)]
theorem lw_r1 : ∀ q ∈ lw_privs_1, lw_okq q := List.forall_mem_cons.mpr ⟨lw_p0, List.forall_mem_cons.mpr ⟨lw_p1, List.forall_mem_cons.mpr ⟨lw_p2, List.forall_mem_cons.mpr ⟨lw_p3, List.forall_mem_cons.mpr ⟨lw_p4, List.forall_mem_cons.mpr ⟨lw_p5, List.forall_mem_cons.mpr ⟨lw_p6, List.forall_mem_cons.mpr ⟨lw_p7, List.forall_mem_cons.mpr ⟨lw_p8, List.forall_mem_cons.mpr ⟨lw_p9, List.forall_mem_cons.mpr ⟨lw_p10, List.forall_mem_cons.mpr ⟨lw_p11, List.forall_mem_cons.mpr ⟨lw_p12, List.forall_mem_cons.mpr ⟨lw_p13, List.forall_mem_cons.mpr ⟨lw_p14, List.forall_mem_cons.mpr ⟨lw_p15, fun _ h => absurd h List.not_mem_nil⟩⟩⟩⟩⟩⟩⟩⟩⟩⟩⟩⟩⟩⟩⟩⟩
theorem lw_p16 : lw_okq (⟨"Conformary$Batch", "alarmByHarm", "()I"⟩, 9) := ⟨⟨by decide +kernel, by decide +kernel⟩, List.mem_of_getElem? (i := 531) (by decide +kernel), List.mem_of_getElem? (i := 608) (by decide +kernel), List.mem_of_getElem? (i := 609) (by decide +kernel)⟩
theorem lw_p17 : lw_okq (⟨"Conformary", "unitsOnMarket", "(I)I"⟩, 11) := ⟨⟨by decide +kernel, by decide +kernel⟩, List.mem_of_getElem? (i := 17) (by decide +kernel), List.mem_of_getElem? (i := 678) (by decide +kernel), List.mem_of_getElem? (i := 679) (by decide +kernel)⟩
theorem lw_p18 : lw_okq (⟨"ConformaryModel", "refused", "(I)Z"⟩, 38) := ⟨⟨by decide +kernel, by decide +kernel⟩, List.mem_of_getElem? (i := 704) (by decide +kernel), List.mem_of_getElem? (i := 837) (by decide +kernel), List.mem_of_getElem? (i := 838) (by decide +kernel)⟩
theorem lw_p19 : lw_okq (⟨"ConformaryModel", "isAct", "(I)Z"⟩, 38) := ⟨⟨by decide +kernel, by decide +kernel⟩, List.mem_of_getElem? (i := 704) (by decide +kernel), List.mem_of_getElem? (i := 845) (by decide +kernel), List.mem_of_getElem? (i := 846) (by decide +kernel)⟩
theorem lw_p20 : lw_okq (⟨"ConformaryModel", "isAbove", "(II)Z"⟩, 38) := ⟨⟨by decide +kernel, by decide +kernel⟩, List.mem_of_getElem? (i := 704) (by decide +kernel), List.mem_of_getElem? (i := 849) (by decide +kernel), List.mem_of_getElem? (i := 850) (by decide +kernel)⟩
theorem lw_p21 : lw_okq (⟨"ConformaryModel", "isStandard", "(I)Z"⟩, 38) := ⟨⟨by decide +kernel, by decide +kernel⟩, List.mem_of_getElem? (i := 704) (by decide +kernel), List.mem_of_getElem? (i := 862) (by decide +kernel), List.mem_of_getElem? (i := 863) (by decide +kernel)⟩
theorem lw_p22 : lw_okq (⟨"ConformaryModel", "isProduct", "(I)Z"⟩, 38) := ⟨⟨by decide +kernel, by decide +kernel⟩, List.mem_of_getElem? (i := 704) (by decide +kernel), List.mem_of_getElem? (i := 878) (by decide +kernel), List.mem_of_getElem? (i := 879) (by decide +kernel)⟩
theorem lw_p23 : lw_okq (⟨"ConformaryModel", "nextVersion", "(I)V"⟩, 38) := ⟨⟨by decide +kernel, by decide +kernel⟩, List.mem_of_getElem? (i := 704) (by decide +kernel), List.mem_of_getElem? (i := 882) (by decide +kernel), List.mem_of_getElem? (i := 883) (by decide +kernel)⟩
theorem lw_p24 : lw_okq (⟨"ConformaryModel", "wantingOf", "(I)I"⟩, 38) := ⟨⟨by decide +kernel, by decide +kernel⟩, List.mem_of_getElem? (i := 704) (by decide +kernel), List.mem_of_getElem? (i := 902) (by decide +kernel), List.mem_of_getElem? (i := 903) (by decide +kernel)⟩
theorem lw_p25 : lw_okq (⟨"ConformaryModel", "demandsOf", "(I)I"⟩, 38) := ⟨⟨by decide +kernel, by decide +kernel⟩, List.mem_of_getElem? (i := 704) (by decide +kernel), List.mem_of_getElem? (i := 909) (by decide +kernel), List.mem_of_getElem? (i := 910) (by decide +kernel)⟩
theorem lw_p26 : lw_okq (⟨"ConformaryModel", "doesApply", "(II)Z"⟩, 38) := ⟨⟨by decide +kernel, by decide +kernel⟩, List.mem_of_getElem? (i := 704) (by decide +kernel), List.mem_of_getElem? (i := 913) (by decide +kernel), List.mem_of_getElem? (i := 914) (by decide +kernel)⟩
theorem lw_p27 : lw_okq (⟨"ConformaryModel", "isFor", "(II)Z"⟩, 38) := ⟨⟨by decide +kernel, by decide +kernel⟩, List.mem_of_getElem? (i := 704) (by decide +kernel), List.mem_of_getElem? (i := 917) (by decide +kernel), List.mem_of_getElem? (i := 918) (by decide +kernel)⟩
theorem lw_p28 : lw_okq (⟨"ConformaryModel", "lowOf", "(I)I"⟩, 38) := ⟨⟨by decide +kernel, by decide +kernel⟩, List.mem_of_getElem? (i := 704) (by decide +kernel), List.mem_of_getElem? (i := 921) (by decide +kernel), List.mem_of_getElem? (i := 922) (by decide +kernel)⟩
theorem lw_p29 : lw_okq (⟨"ConformaryModel", "keptOf", "(I)I"⟩, 38) := ⟨⟨by decide +kernel, by decide +kernel⟩, List.mem_of_getElem? (i := 704) (by decide +kernel), List.mem_of_getElem? (i := 925) (by decide +kernel), List.mem_of_getElem? (i := 926) (by decide +kernel)⟩
theorem lw_p30 : lw_okq (⟨"ConformaryModel", "shown", "(I)I"⟩, 38) := ⟨⟨by decide +kernel, by decide +kernel⟩, List.mem_of_getElem? (i := 704) (by decide +kernel), List.mem_of_getElem? (i := 929) (by decide +kernel), List.mem_of_getElem? (i := 930) (by decide +kernel)⟩
theorem lw_p31 : lw_okq (⟨"ConformaryModel", "wayOf", "(I)I"⟩, 38) := ⟨⟨by decide +kernel, by decide +kernel⟩, List.mem_of_getElem? (i := 704) (by decide +kernel), List.mem_of_getElem? (i := 933) (by decide +kernel), List.mem_of_getElem? (i := 934) (by decide +kernel)⟩
def lw_privs_2 : List (MethodName × Nat) := [(⟨"Conformary$Batch", "alarmByHarm", "()I"⟩, 9), (⟨"Conformary", "unitsOnMarket", "(I)I"⟩, 11), (⟨"ConformaryModel", "refused", "(I)Z"⟩, 38), (⟨"ConformaryModel", "isAct", "(I)Z"⟩, 38), (⟨"ConformaryModel", "isAbove", "(II)Z"⟩, 38), (⟨"ConformaryModel", "isStandard", "(I)Z"⟩, 38), (⟨"ConformaryModel", "isProduct", "(I)Z"⟩, 38), (⟨"ConformaryModel", "nextVersion", "(I)V"⟩, 38), (⟨"ConformaryModel", "wantingOf", "(I)I"⟩, 38), (⟨"ConformaryModel", "demandsOf", "(I)I"⟩, 38), (⟨"ConformaryModel", "doesApply", "(II)Z"⟩, 38), (⟨"ConformaryModel", "isFor", "(II)Z"⟩, 38), (⟨"ConformaryModel", "lowOf", "(I)I"⟩, 38), (⟨"ConformaryModel", "keptOf", "(I)I"⟩, 38), (⟨"ConformaryModel", "shown", "(I)I"⟩, 38), (⟨"ConformaryModel", "wayOf", "(I)I"⟩, 38)]
theorem lw_r2 : ∀ q ∈ lw_privs_2, lw_okq q := List.forall_mem_cons.mpr ⟨lw_p16, List.forall_mem_cons.mpr ⟨lw_p17, List.forall_mem_cons.mpr ⟨lw_p18, List.forall_mem_cons.mpr ⟨lw_p19, List.forall_mem_cons.mpr ⟨lw_p20, List.forall_mem_cons.mpr ⟨lw_p21, List.forall_mem_cons.mpr ⟨lw_p22, List.forall_mem_cons.mpr ⟨lw_p23, List.forall_mem_cons.mpr ⟨lw_p24, List.forall_mem_cons.mpr ⟨lw_p25, List.forall_mem_cons.mpr ⟨lw_p26, List.forall_mem_cons.mpr ⟨lw_p27, List.forall_mem_cons.mpr ⟨lw_p28, List.forall_mem_cons.mpr ⟨lw_p29, List.forall_mem_cons.mpr ⟨lw_p30, List.forall_mem_cons.mpr ⟨lw_p31, fun _ h => absurd h List.not_mem_nil⟩⟩⟩⟩⟩⟩⟩⟩⟩⟩⟩⟩⟩⟩⟩⟩
theorem lw_p32 : lw_okq (⟨"ConformaryModel", "holds", "(I)Z"⟩, 38) := ⟨⟨by decide +kernel, by decide +kernel⟩, List.mem_of_getElem? (i := 704) (by decide +kernel), List.mem_of_getElem? (i := 937) (by decide +kernel), List.mem_of_getElem? (i := 938) (by decide +kernel)⟩
theorem lw_p33 : lw_okq (⟨"ConformaryModel", "hasScope", "(II)Z"⟩, 38) := ⟨⟨by decide +kernel, by decide +kernel⟩, List.mem_of_getElem? (i := 704) (by decide +kernel), List.mem_of_getElem? (i := 941) (by decide +kernel), List.mem_of_getElem? (i := 942) (by decide +kernel)⟩
theorem lw_p34 : lw_okq (⟨"ConformaryModel", "applying", "(I)I"⟩, 38) := ⟨⟨by decide +kernel, by decide +kernel⟩, List.mem_of_getElem? (i := 704) (by decide +kernel), List.mem_of_getElem? (i := 945) (by decide +kernel), List.mem_of_getElem? (i := 946) (by decide +kernel)⟩
theorem lw_p35 : lw_okq (⟨"ConformaryModel", "isBody", "(I)Z"⟩, 38) := ⟨⟨by decide +kernel, by decide +kernel⟩, List.mem_of_getElem? (i := 704) (by decide +kernel), List.mem_of_getElem? (i := 957) (by decide +kernel), List.mem_of_getElem? (i := 958) (by decide +kernel)⟩
theorem lw_p36 : lw_okq (⟨"ConformaryModel", "arrives", "(III)I"⟩, 38) := ⟨⟨by decide +kernel, by decide +kernel⟩, List.mem_of_getElem? (i := 704) (by decide +kernel), List.mem_of_getElem? (i := 977) (by decide +kernel), List.mem_of_getElem? (i := 978) (by decide +kernel)⟩
theorem lw_p37 : lw_okq (⟨"ConformaryModel", "isBatch", "(I)Z"⟩, 38) := ⟨⟨by decide +kernel, by decide +kernel⟩, List.mem_of_getElem? (i := 704) (by decide +kernel), List.mem_of_getElem? (i := 990) (by decide +kernel), List.mem_of_getElem? (i := 991) (by decide +kernel)⟩
theorem lw_p38 : lw_okq (⟨"ConformaryModel", "levelOf", "(I)I"⟩, 38) := ⟨⟨by decide +kernel, by decide +kernel⟩, List.mem_of_getElem? (i := 704) (by decide +kernel), List.mem_of_getElem? (i := 998) (by decide +kernel), List.mem_of_getElem? (i := 999) (by decide +kernel)⟩
theorem lw_p39 : lw_okq (⟨"ConformaryModel", "onMarket", "(I)I"⟩, 38) := ⟨⟨by decide +kernel, by decide +kernel⟩, List.mem_of_getElem? (i := 704) (by decide +kernel), List.mem_of_getElem? (i := 1038) (by decide +kernel), List.mem_of_getElem? (i := 1039) (by decide +kernel)⟩
def lw_privs_3 : List (MethodName × Nat) := [(⟨"ConformaryModel", "holds", "(I)Z"⟩, 38), (⟨"ConformaryModel", "hasScope", "(II)Z"⟩, 38), (⟨"ConformaryModel", "applying", "(I)I"⟩, 38), (⟨"ConformaryModel", "isBody", "(I)Z"⟩, 38), (⟨"ConformaryModel", "arrives", "(III)I"⟩, 38), (⟨"ConformaryModel", "isBatch", "(I)Z"⟩, 38), (⟨"ConformaryModel", "levelOf", "(I)I"⟩, 38), (⟨"ConformaryModel", "onMarket", "(I)I"⟩, 38)]
theorem lw_r3 : ∀ q ∈ lw_privs_3, lw_okq q := List.forall_mem_cons.mpr ⟨lw_p32, List.forall_mem_cons.mpr ⟨lw_p33, List.forall_mem_cons.mpr ⟨lw_p34, List.forall_mem_cons.mpr ⟨lw_p35, List.forall_mem_cons.mpr ⟨lw_p36, List.forall_mem_cons.mpr ⟨lw_p37, List.forall_mem_cons.mpr ⟨lw_p38, List.forall_mem_cons.mpr ⟨lw_p39, fun _ h => absurd h List.not_mem_nil⟩⟩⟩⟩⟩⟩⟩⟩
def lw_privs : List (MethodName × Nat) := lw_privs_1 ++ (lw_privs_2 ++ (lw_privs_3))
def lw_tbl : List Cond := k2_sels lw_privs ++ tables_1
theorem lw_privs_ok : ∀ q ∈ lw_privs, lw_okq q := by
  show ∀ q ∈ lw_privs_1 ++ (lw_privs_2 ++ (lw_privs_3)), lw_okq q
  exact List.forall_mem_append.mpr ⟨lw_r1, List.forall_mem_append.mpr ⟨lw_r2, lw_r3⟩⟩
-- ===== end =====
end
section
/-! ===== BEGIN words of one list among another's, by their places ===== -/
theorem goodIn_r {big : List Cond} (ws : List Cond) (ps : List Nat) (hp : ws = ps.filterMap (fun i => big[i]?)) (h : ws.all goodWord = true) : GoodIn big ws := by
  intro w hw
  have h1 := List.all_eq_true.mp h w hw
  rw [hp] at hw
  obtain ⟨i, -, hi⟩ := List.mem_filterMap.mp hw
  have hm : w ∈ big := by first | exact List.mem_of_getElem? hi | exact List.getElem?_mem hi
  exact ⟨hm, good_of_word h1⟩
theorem goodIn_app {big a b : List Cond} (ha : GoodIn big a) (hb : GoodIn big b) : GoodIn big (a ++ b) := fun w h => (List.mem_append.mp h).elim (ha w) (hb w)
theorem goodIn_ca {big a b : List Cond} {c : Cond} (ha : GoodIn big (c :: a)) (hb : GoodIn big b) : GoodIn big (c :: (a ++ b)) := fun w h => (List.mem_cons.mp h).elim (fun e => ha w (List.mem_cons.mpr (Or.inl e))) (fun h => (List.mem_append.mp h).elim (fun h => ha w (List.mem_cons.mpr (Or.inr h))) (hb w))
theorem goodIn_sub {big ws : List Cond} (hm : ∀ w ∈ ws, w ∈ big) (h : ws.all goodWord = true) : GoodIn big ws := fun w hw => ⟨hm w hw, good_of_word (List.all_eq_true.mp h w hw)⟩
/-! ===== END ===== -/

/-! ===== BEGIN exceptions that leave a method, and their catching by the caller (launches without stack traces) ===== -/
section VXA
/-! The laws vx_back, vx_callV, vx_callS, vx_callSW, vx_throw0, vx_throwS follow proofs of the library, with one case more: JvmDerived/Free/Laws.lean (Back.of_free), Shelf42/LK1.lean (callV, callS), Shelf/KitTraced.lean (throwNew0V, throwNewS). -/
/-- where a method has thrown q: the class by its name, the cell, what was written, the world -/
def vx_T (XC : String → State → State → Prop) (st : State) (q : Addr) (t : State) (mc ms : Nat) (free : Addr → Prop) : Prop :=
  ∃ (E : String) (ce : Cell) (L : List Loc), XC E st t ∧ t.heap[q]? = some ce ∧ ce.vm = .none ∧ st.vm.findClass E = some ce.cls ∧ st.WarmedH t.vm ∧ st.sameButNew ({ t with vm := st.vm } : State) L mc ms ∧ ∀ z ∈ L, free z.base
def vx_Q (Qc : Array Value → State → Outcome → State → Prop) (XC : String → State → State → Prop) (mc ms : Nat) (free : Addr → Prop) : Array Value → State → Outcome → State → Prop := fun a st o t =>
  (Qc a st o t ∧ ∃ L, FrameEnd st o t L mc ms ∧ ∀ q ∈ L, free q.base) ∨ ∃ q, o = .threw q ∧ vx_T XC st q t mc ms free
/-- a callee that returns or throws -/
def vx_Met (l : Launch) (y : MethodName) (ws : List Cond) (rm : Room) (Pc : Array Value → State → Prop) (Qc : Array Value → State → Outcome → State → Prop) (XC : String → State → State → Prop) (mc ms : Nat) (free : Addr → Prop) : Prop :=
  MetFree l y (headSpec ws rm) Pc (fun _ _ _ _ _ => True) (vx_Q Qc XC mc ms free)
def vx_Post (XC : String → State → State → Prop) (mc ms : Nat) (free : Addr → Prop) : Pt → Array Value → Addr → Pt → Prop := fun A a q B =>
  ∃ (g : JFrame) (mk : MethodId) (t : State) (L : List Loc) (E : String) (ce : Cell), B.U.heap = t.heap ∧ B.U.vm = t.vm ∧ XC E (A.U.calling g mk a) t ∧ t.heap[q]? = some ce ∧ ce.vm = .none ∧ A.U.vm.findClass E = some ce.cls ∧ B.locs = A.locs ++ L ∧ (∀ z ∈ L, free z.base) ∧ B.cells = A.cells + mc ∧ B.slots = A.slots + ms
def vx_Back (l : Launch) (R : Room) (p : Program) (e : Env) (below : List Frame) (s : State) (sargs : Array Value) (y : MethodName) (len W9 : Nat)
    (Pre : Pt → Array Value → Prop) (Post : Pt → Array Value → Option Value → Pt → Prop) (PostX : Pt → Array Value → Addr → Pt → Prop) : Prop :=
  ∀ (m : MethodId) (meth : Method) (c : Code) (A : Pt) (g : JFrame) (ig : Instr) (mk : MethodId) (a : Array Value),
    Stand p l e R s m sargs below meth c A.U A.locs A.cells A.slots → g.method = m → g.locals.size = c.maxLocals → decode c.code g.pc = .ok (ig, len) →
    2 * g.monitorRoom + (g.stack.map fun v => v.category).sum ≤ W9 → A.U.methodNamed? y = some mk → Pre A a →
    (∃ (v : Option Value) (B : Pt), Stand p l e R s m sargs below meth c B.U B.locs B.cells B.slots ∧ Post A a v B ∧
      Steps p.tables e below (doInvoke e (A.U.setTop g) [] mk a).1 (B.U.setTop { g with pc := g.pc + len, stack := v.toList ++ g.stack })) ∨
    (∃ (q : Addr) (B : Pt), Stand p l e R s m sargs below meth c B.U B.locs B.cells B.slots ∧ PostX A a q B ∧
      Steps p.tables e below (doInvoke e (A.U.setTop g) [] mk a).1 ((B.U.setTop g).pushFrame (.throwing q)))
section Payer
variable {l : Launch} {R : Room} {p : Program} {e : Env} {below : List Frame} {s : State} {sargs : Array Value} {y : MethodName} {len W9 : Nat}
theorem vx_back {ws : List Cond} {rm : Room} {Pc : Array Value → State → Prop} {Qc : Array Value → State → Outcome → State → Prop} {XC : String → State → State → Prop} {mc ms : Nat} {free : Addr → Prop} {bytes : ByteArray} {maxL : Nat} {ret : Option FieldType}
    (hM : vx_Met l y ws rm Pc Qc XC mc ms free) (hblind : FrameBlind Pc) (hrc : rm.cells = mc) (hrs : rm.slots = ms)
    (hframes : rm.frames + 1 ≤ R.frames) (hlocals : W9 + (maxL + 11) + rm.locals ≤ R.locals)
    (hws : ∀ w ∈ ws, ∀ a' U, s.WarmedH U.vm → w.before a' U = true) (hcode : Cond.code y bytes maxL ret ∈ ws) (hinit : ∀ a' U, s.WarmedH U.vm → (Cond.initialized y.cls).before a' U = true) :
    vx_Back l R p e below s sargs y len W9 (PreOf R mc ms Pc) (PostOf Qc mc ms free) (vx_Post XC mc ms free) := by
  intro m meth c A g ig mk a X hg hsize hdg hW hn hp
  have h1 : (headSpec ws rm).pre.before a A.U = true := atoms_intro fun w hw => hws w hw _ _ X.warmed
  have h2 : (Cond.code y bytes maxL ret).before a A.U = true := hws _ hcode _ _ X.warmed
  have h3 : (Cond.initialized y.cls).before a A.U = true := hinit _ _ X.warmed
  have h4 : A.cells + (headSpec ws rm).room.cells ≤ R.cells := by rw [show (headSpec ws rm).room.cells = mc from hrc]; exact hp.1
  have h5 : A.slots + (headSpec ws rm).room.slots ≤ R.slots := by rw [show (headSpec ws rm).room.slots = ms from hrs]; exact hp.2.1
  have hPc : Pc a (A.U.calling g mk a) := hblind _ _ _ _ hp.2.2
  obtain ⟨U, Ls, c0, s0⟩ := A
  dsimp only [Pt.U, Pt.locs, Pt.cells, Pt.slots] at h1 h2 h3 h4 h5 X hn hPc ⊢
  obtain ⟨methY, cY, hmY, hcY, -, hlY, -, -, -, -⟩ := Cond.code_spec hn h2
  obtain ⟨kY, hkY, -⟩ := className_of_methodNamed hn
  have hinitY : kY.init = .initialized := Cond.initialized_spec (findClass_of_methodNamed hn) hkY h3
  have h : At U g.method c below := by rw [hg]; exact X.here
  have hlocals9 : W9 + (maxL + 11) + (headSpec ws rm).room.locals ≤ R.locals := hlocals
  have happ : (headSpec ws rm).appliesLoose y e.platform (U.calling g mk a) = true :=
    Spec.appliesLoose_calling (g := g) h hdg hn hkY hinitY
      (X.room_calling (g := g) (R' := (headSpec ws rm).room) hsize hmY hcY hframes (by rw [hlY]; omega) h4 h5) h1
  obtain ⟨mid, hmid⟩ := h.above
  have hfr : (U.setTop g).frames = (.java g :: mid) ++ below := by rw [State.frames_setTop' g h.top, hmid]; rfl
  obtain ⟨o, s₂, hsteps, -, hend, hq⟩ := Steps.callFree hM p X.admits X.cas X.clock (acts := []) hfr happ hPc trivial
  have hq' : vx_Q Qc XC mc ms free a (U.calling g mk a) o s₂ := hq
  rw [State.frames_setTop' g h.top] at hend
  obtain ⟨g₀, hg0⟩ := Option.isSome_iff_exists.mp h.top
  obtain ⟨r, hr⟩ := State.topJava?_eq_some.mp hg0
  have hr' : (({ U with heap := s₂.heap, slotsUsed := s₂.slotsUsed } : State).setVm s₂.vm).frames = .java g₀ :: r := hr
  rcases hq' with ⟨hqc, L, hfe, hL⟩ | ⟨q, rfl, E, ce, L, hx, hce, hcv, hcl, hW₂, hsm, hL⟩
  · obtain ⟨⟨v, rfl⟩, hW₂, e2, q2, q3, q4, q5, q6⟩ := id hfe
    have e3 : s₂ = ({ (U.calling g mk a).setFrames s₂.frames with heap := s₂.heap, slotsUsed := s₂.slotsUsed } : State).setVm s₂.vm := by
      have : s₂ = ({ s₂ with vm := (U.calling g mk a).vm } : State).setVm s₂.vm := rfl
      rw [e2] at this
      exact this
    obtain ⟨c₂, i₂, len₂, hc₂, hd₂, hf₂⟩ := hend
    have hW' : U.WarmedH s₂.vm := hW₂
    have hcc : c₂ = c := by
      have h1 : s₂.code? g.method = U.code? g.method := by
        rw [State.code?_eq, State.code?_eq, hW'.alike.method?]
      exact Option.some.inj (hc₂.symm.trans (h1.trans h.code))
    subst hcc
    have hlen : len₂ = len := by rw [hdg] at hd₂; cases hd₂; rfl
    subst hlen
    have hs₂ : s₂ = (({ U with heap := s₂.heap, slotsUsed := s₂.slotsUsed } : State).setVm s₂.vm).setTop { g with pc := g.pc + len₂, stack := v.toList ++ g.stack } := by
      refine e3.trans ?_
      rw [hf₂, State.calling_eq h.top, State.setFrames_setFrames, State.setTop_of_frames _ hr', hr]
      rfl
    have hsame : U.sameButNew ({ U with heap := s₂.heap, slotsUsed := s₂.slotsUsed } : State) L mc ms := by
      refine ⟨?_, q2, q3, q4, q5, q6⟩
      obtain ⟨t, ht, -⟩ := State.frames_cons hr
      show ({ U with heap := s₂.heap, slotsUsed := s₂.slotsUsed } : State) = { U.setFrames U.frames with heap := s₂.heap, slotsUsed := s₂.slotsUsed }
      rw [State.setFrames_self ht]
    subst hg
    refine Or.inl ⟨v, ⟨(({ U with heap := s₂.heap, slotsUsed := s₂.slotsUsed } : State).setVm s₂.vm), Ls ++ L, c0 + mc, s0 + ms⟩,
      ⟨X.admits, X.cas, X.clock, X.frames, X.room, X.hears, X.method, X.code, (X.here.setHeapUsed s₂.heap s₂.slotsUsed).setVm hW'.alike, X.tail, State.WarmedH.trans X.warmed hW', X.limits, X.bytes, X.same.trans (hsame.setVm s.vm)⟩,
      ⟨g, mk, s₂, L, rfl, rfl, hqc, rfl, hL, rfl, rfl⟩, ?_⟩
    show Steps p.tables e below _ ((({ U with heap := s₂.heap, slotsUsed := s₂.slotsUsed } : State).setVm s₂.vm).setTop { g with pc := g.pc + len₂, stack := v.toList ++ g.stack })
    rw [← hs₂]
    exact hsteps
  · obtain ⟨e2, q2, q3, q4, q5, q6⟩ := id hsm
    have e3 : s₂ = ({ (U.calling g mk a).setFrames s₂.frames with heap := s₂.heap, slotsUsed := s₂.slotsUsed } : State).setVm s₂.vm := by
      have : s₂ = ({ s₂ with vm := (U.calling g mk a).vm } : State).setVm s₂.vm := rfl
      rw [e2] at this
      exact this
    have hf₂ : s₂.frames = .throwing q :: .java g :: U.frames.tail := hend
    have hW' : U.WarmedH s₂.vm := hW₂
    have hs₂ : s₂ = ((({ U with heap := s₂.heap, slotsUsed := s₂.slotsUsed } : State).setVm s₂.vm).setTop g).pushFrame (.throwing q) := by
      refine e3.trans ?_
      rw [hf₂, State.calling_eq h.top, State.setFrames_setFrames, State.pushFrame, State.frames_setTop _ hr', State.setTop_of_frames _ hr', State.setFrames_setFrames, hr]
      rfl
    have hsame : U.sameButNew ({ U with heap := s₂.heap, slotsUsed := s₂.slotsUsed } : State) L mc ms := by
      refine ⟨?_, q2, q3, q4, q5, q6⟩
      obtain ⟨t, ht, -⟩ := State.frames_cons hr
      show ({ U with heap := s₂.heap, slotsUsed := s₂.slotsUsed } : State) = { U.setFrames U.frames with heap := s₂.heap, slotsUsed := s₂.slotsUsed }
      rw [State.setFrames_self ht]
    subst hg
    refine Or.inr ⟨q, ⟨(({ U with heap := s₂.heap, slotsUsed := s₂.slotsUsed } : State).setVm s₂.vm), Ls ++ L, c0 + mc, s0 + ms⟩,
      ⟨X.admits, X.cas, X.clock, X.frames, X.room, X.hears, X.method, X.code, (X.here.setHeapUsed s₂.heap s₂.slotsUsed).setVm hW'.alike, X.tail, State.WarmedH.trans X.warmed hW', X.limits, X.bytes, X.same.trans (hsame.setVm s.vm)⟩,
      ⟨g, mk, s₂, L, E, ce, rfl, rfl, hx, hce, hcv, hcl, rfl, hL, rfl, rfl⟩, ?_⟩
    show Steps p.tables e below _ (((({ U with heap := s₂.heap, slotsUsed := s₂.slotsUsed } : State).setVm s₂.vm).setTop g).pushFrame (.throwing q))
    rw [← hs₂]
    exact hsteps
end Payer
section Calls
variable {p : Program} {l : Launch} {e : Env} {R : Room} {s : State} {m : MethodId} {args : Array Value} {below : List Frame} {meth : Method} {c : Code} {T : State} {locs : List Loc} {cells slots : Nat}
theorem vx_callV (X : Stand p l e R s m args below meth c T locs cells slots) (hexec : p.tables.exec = Jvm.exec) {own C : String} {index : Nat} {y : MethodName} {bytes : ByteArray} {maxL : Nat} {ret : Option FieldType}
    (hown : s.vm.findClass own = some m.cls) (hlink : (Cond.methodLink own index y).before args s = true) (hinst : (Cond.instanceMethod y).before args s = true) (hsel : (Cond.selects C y y).before args s = true)
    (hcode : (Cond.code y bytes maxL ret).before args s = true) (hy : y.cls ≠ "java/lang/invoke/MethodHandle" ∧ y.cls ≠ "java/lang/invoke/VarHandle")
    {W9 : Nat} {Pre : Pt → Array Value → Prop} {Post : Pt → Array Value → Option Value → Pt → Prop} {PostX : Pt → Array Value → Addr → Pt → Prop} (hK : vx_Back l R p e below s args y 3 W9 Pre Post PostX)
    {b : Addr} {cellB : Cell} (hcell : T.heap[b]? = some cellB) (hobj : cellB.vm.isStatics = false) (hcls : s.vm.findClass C = some cellB.cls)
    {g : JFrame} (hg : g.method = m) (hsize : g.locals.size = c.maxLocals) {argsL rest : List Value} (hlen : ∀ sig, parseMethodDescriptor y.desc = some sig → argsL.length = sig.parameters.length)
    (hstack : g.stack = argsL.reverse ++ .ref b :: rest) (hW : 2 * g.monitorRoom + (rest.map fun v => v.category).sum ≤ W9) (hdg : decode c.code g.pc = .ok (.invokevirtual index, 3))
    (hpre : ∀ vm₁, s.WarmedH vm₁ → Pre ⟨T.setVm vm₁, locs, cells, slots⟩ (Value.ref b :: argsL).toArray) :
    (∃ (v : Option Value) (vm₁ : Vm) (B : Pt), s.WarmedH vm₁ ∧ Stand p l e R s m args below meth c B.U B.locs B.cells B.slots ∧ Post ⟨T.setVm vm₁, locs, cells, slots⟩ (Value.ref b :: argsL).toArray v B ∧
      ∀ target, Steps p.tables e below (B.U.setTop { g with pc := g.pc + 3, stack := v.toList ++ rest }) target → Steps p.tables e below (T.setTop g) target) ∨
    (∃ (q : Addr) (vm₁ : Vm) (B : Pt), s.WarmedH vm₁ ∧ Stand p l e R s m args below meth c B.U B.locs B.cells B.slots ∧ PostX ⟨T.setVm vm₁, locs, cells, slots⟩ (Value.ref b :: argsL).toArray q B ∧
      Steps p.tables e below (T.setTop g) ((B.U.setTop { g with stack := rest }).pushFrame (.throwing q))) := by
  obtain ⟨mk, methM, hnamed, hmethM, hstM, habM⟩ := Cond.instanceMethod_spec hinst
  obtain ⟨methM', cM, hmethM', -, -, -, -, -, -, hsigM⟩ := Cond.code_spec hnamed hcode
  cases hmethM.symm.trans hmethM'
  obtain ⟨c2, r2, m2, q1, q2, q3, q4, kP, hkP, hkPi⟩ := Cond.selects_spec hsel
  cases hcls.symm.trans q1
  cases (State.methodFound?_of_named hnamed hy).symm.trans q2
  cases hnamed.symm.trans q3
  have hselP : selectMethod e.platform s.vm cellB.cls mk = .method mk := by rw [Launch.admits_selectMethod X.admits]; exact q4
  obtain ⟨vm₁, X₁, hstep₁⟩ := X.invokevirtual hexec hown hlink hnamed hmethM hstM hkP hkPi hy (a := b) (cell := cellB) hcell
    (fun z h => by rw [h] at hobj; cases hobj) hselP hmethM habM hkP hkPi (g := g) hg (argsL := argsL) (rest := rest) (hlen _ hsigM) hstack hdg
  rcases hK m meth c ⟨T.setVm vm₁, locs, cells, slots⟩ { g with stack := rest } (.invokevirtual index) mk (Value.ref b :: argsL).toArray X₁ hg hsize hdg hW (X₁.named hnamed) (hpre vm₁ X₁.warmed) with ⟨v, B, X', hpost, hsteps⟩ | ⟨q, B, X', hpost, hsteps⟩
  · exact Or.inl ⟨v, vm₁, B, X₁.warmed, X', hpost, fun target h => hstep₁ _ fun acts => by rw [doInvoke_state]; exact hsteps.trans h⟩
  · exact Or.inr ⟨q, vm₁, B, X₁.warmed, X', hpost, hstep₁ _ fun acts => by rw [doInvoke_state]; exact hsteps⟩
theorem vx_callS (X : Stand p l e R s m args below meth c T locs cells slots) (hexec : p.tables.exec = Jvm.exec) {own : String} {index : Nat} {y : MethodName} {bytes : ByteArray} {maxL : Nat} {ret : Option FieldType}
    (hown : s.vm.findClass own = some m.cls) (hlink : (Cond.methodLink own index y).before args s = true) (hstat : (Cond.static y).before args s = true) (hinit : (Cond.initialized y.cls).before args s = true)
    (hcode : (Cond.code y bytes maxL ret).before args s = true) (hy : y.cls ≠ "java/lang/invoke/MethodHandle" ∧ y.cls ≠ "java/lang/invoke/VarHandle")
    {W9 : Nat} {Pre : Pt → Array Value → Prop} {Post : Pt → Array Value → Option Value → Pt → Prop} {PostX : Pt → Array Value → Addr → Pt → Prop} (hK : vx_Back l R p e below s args y 3 W9 Pre Post PostX)
    {g : JFrame} (hg : g.method = m) (hsize : g.locals.size = c.maxLocals) {argsL rest : List Value} (hlen : ∀ sig, parseMethodDescriptor y.desc = some sig → argsL.length = sig.parameters.length)
    (hstack : g.stack = argsL.reverse ++ rest) (hW : 2 * g.monitorRoom + (rest.map fun v => v.category).sum ≤ W9) (hdg : decode c.code g.pc = .ok (.invokestatic index, 3))
    (hpre : ∀ vm₁, s.WarmedH vm₁ → Pre ⟨T.setVm vm₁, locs, cells, slots⟩ argsL.toArray) :
    (∃ (v : Option Value) (vm₁ : Vm) (B : Pt), s.WarmedH vm₁ ∧ Stand p l e R s m args below meth c B.U B.locs B.cells B.slots ∧ Post ⟨T.setVm vm₁, locs, cells, slots⟩ argsL.toArray v B ∧
      ∀ target, Steps p.tables e below (B.U.setTop { g with pc := g.pc + 3, stack := v.toList ++ rest }) target → Steps p.tables e below (T.setTop g) target) ∨
    (∃ (q : Addr) (vm₁ : Vm) (B : Pt), s.WarmedH vm₁ ∧ Stand p l e R s m args below meth c B.U B.locs B.cells B.slots ∧ PostX ⟨T.setVm vm₁, locs, cells, slots⟩ argsL.toArray q B ∧
      Steps p.tables e below (T.setTop g) ((B.U.setTop { g with stack := rest }).pushFrame (.throwing q))) := by
  obtain ⟨mk, hnamed⟩ := Cond.code_named hcode
  obtain ⟨methM, cM, hmethM, -, -, -, -, -, -, hsigM⟩ := Cond.code_spec hnamed hcode
  have hstatic : methM.isStatic = true := Cond.static_spec hnamed hmethM hstat
  obtain ⟨kP, hkP, -⟩ := className_of_methodNamed hnamed
  have hinitP : kP.init = .initialized := Cond.initialized_spec (findClass_of_methodNamed hnamed) hkP hinit
  obtain ⟨vm₁, X₁, hstep₁⟩ := X.invokestatic hexec hown hlink hnamed hmethM hstatic hkP hinitP hy (g := g) hg (argsL := argsL) (rest := rest) (hlen _ hsigM) hstack hdg
  rcases hK m meth c ⟨T.setVm vm₁, locs, cells, slots⟩ { g with stack := rest } (.invokestatic index) mk argsL.toArray X₁ hg hsize hdg hW (X₁.named hnamed) (hpre vm₁ X₁.warmed) with ⟨v, B, X', hpost, hsteps⟩ | ⟨q, B, X', hpost, hsteps⟩
  · exact Or.inl ⟨v, vm₁, B, X₁.warmed, X', hpost, fun target h => hstep₁ _ fun acts => by rw [doInvoke_state]; exact hsteps.trans h⟩
  · exact Or.inr ⟨q, vm₁, B, X₁.warmed, X', hpost, hstep₁ _ fun acts => by rw [doInvoke_state]; exact hsteps⟩
end Calls
theorem vx_cls {s : State} {T : State} {vm₁ : Vm} {E : String} {k : ClassId} (hW : s.WarmedH vm₁) (h : (T.setVm vm₁).vm.findClass E = some k) : s.vm.findClass E = some k := by
  have h1 : vm₁.findClass E = some k := h
  rw [hW.alike.findClass] at h1
  exact h1
/-- the method's frame g, with q thrown over it -/
def vx_W (p : Program) (l : Launch) (e : Env) (R : Room) (s : State) (m : MethodId) (args : Array Value) (below : List Frame) (meth : Method) (c : Code) (H : Heap) (locs : List Loc) (cells slots : Nat) (Q : State → Prop) (g : JFrame) (q : Addr) : Prop :=
  ∀ T : State, T.heap = H → Stand p l e R s m args below meth c T locs cells slots → ∃ t, Steps p.tables e below ((T.setTop g).pushFrame (.throwing q)) t ∧ Q t
def vx_Run (p : Program) (l : Launch) (e : Env) (R : Room) (s : State) (m : MethodId) (args : Array Value) (below : List Frame) (meth : Method) (c : Code) (H : Heap) (locs : List Loc) (cells slots mc ms : Nat) (g : JFrame) (rest : List Value) (Qa : State → Outcome → State → Prop) (XC : String → State → State → Prop) (free : Addr → Prop) : Prop :=
  ∀ T : State, T.heap = H → Stand p l e R s m args below meth c T locs cells slots →
    (∃ (v : Option Value) (st₀ t T' : State) (L : List Loc), st₀.heap = H ∧ Stand p l e R s m args below meth c T' (locs ++ L) (cells + mc) (slots + ms) ∧ (∀ q ∈ L, free q.base) ∧ T'.heap = t.heap ∧ T'.vm = t.vm ∧ Qa st₀ (.returned v) t ∧
      Goes p e below T g T' { g with pc := g.pc + 3, stack := v.toList ++ rest }) ∨
    (∃ (q : Addr) (st₀ t T' : State) (L : List Loc) (E : String) (ce : Cell), st₀.heap = H ∧ Stand p l e R s m args below meth c T' (locs ++ L) (cells + mc) (slots + ms) ∧ (∀ z ∈ L, free z.base) ∧ T'.heap = t.heap ∧ T'.vm = t.vm ∧ XC E st₀ t ∧ t.heap[q]? = some ce ∧ ce.vm = .none ∧ s.vm.findClass E = some ce.cls ∧
      Steps p.tables e below (T.setTop g) ((T'.setTop { g with stack := rest }).pushFrame (.throwing q)))
def vx_X {S : Type} (px : S → Prop) (B : String → S → State → Prop) (A : Nat → Prop) : String → State → State → Prop := fun E st t => ∃ u : S, px u ∧ B E u t ∧ va_F A st t
section Runs
variable {p : Program} {l : Launch} {e : Env} {R : Room} {s : State} {m : MethodId} {args : Array Value} {below : List Frame} {meth : Method} {c : Code} {H : Heap} {locs : List Loc} {cells slots : Nat}
variable {y : MethodName} {bytes cc : ByteArray} {maxL nL mc ms n index : Nat} {ret : Option FieldType} {ws : List Cond} {rm : Room} {Pc : Array Value → State → Prop} {Qc : Array Value → State → Outcome → State → Prop} {XC : String → State → State → Prop} {free : Addr → Prop} {Ts : List Cond} {own C : String} {b : Addr} {As rest : List Value} {g : JFrame}
theorem vx_callBack (cb : CallB R s args own index y bytes maxL ret ws rm mc ms n) (hM : vx_Met l y ws rm Pc Qc XC mc ms free) (hbl : FrameBlind Pc) : vx_Back l R p e below s args y 3 8 (PreOf R mc ms Pc) (PostOf Qc mc ms free) (vx_Post XC mc ms free) := by
  obtain ⟨hrc, hrs, hfr, hlo, hws, hcw, -, hini, -⟩ := cb
  exact vx_back (bytes := bytes) (maxL := maxL) (ret := ret) hM hbl hrc hrs hfr hlo hws hcw (fun a' U hW => word_at hW (Or.inl (by first | rfl | simp [Cond.onTables, Cond.keeps, Cond.steady])) hini)
theorem vx_runV (S : CallFix p m c cc nL s args Ts own) (hM : vx_Met l y ws rm Pc Qc XC mc ms free) (cw : CallW R s args own C index y bytes maxL ret ws rm mc ms n) (hp : PreV s H C b Pc As)
    (hg : g.method = m) (hn : As.length = n) (hsize : g.locals.size = nL) (hstack : g.stack = As.reverse ++ .ref b :: rest) (hW : 2 * g.monitorRoom + (rest.map fun v => v.category).sum ≤ 8) (hdg : decode cc g.pc = .ok (.invokevirtual index, 3)) (hf : cells + mc ≤ R.cells ∧ slots + ms ≤ R.slots) :
    vx_Run p l e R s m args below meth c H locs cells slots mc ms g rest (Qc (Value.ref b :: As).toArray) XC free := by
  have hK : vx_Back l R p e below s args y 3 8 (PreOf R mc ms Pc) (PostOf Qc mc ms free) (vx_Post XC mc ms free) := vx_callBack cw.1 hM hp.1
  obtain ⟨⟨-, -, -, -, -, -, hcode, -, hy, hlen, hl⟩, hin, hse⟩ := cw
  obtain ⟨hx, hb, hml, ho, -⟩ := S
  obtain ⟨-, ⟨cellB, hcB, hoB, hclB⟩, hPc⟩ := hp
  intro T hT X
  rcases vx_callV X hx (C := C) (bytes := bytes) (maxL := maxL) (ret := ret) ho hl hin hse hcode hy hK (by rw [hT]; exact hcB) hoB hclB hg (hsize.trans hml.symm) (argsL := As) (rest := rest) (fun sig h => hn.trans (hlen sig h)) hstack hW (by rw [hb]; exact hdg)
    (fun vm₁ hW₁ => ⟨hf.1, hf.2, hPc (T.setVm vm₁) hT hW₁⟩) with ⟨v, vm₁, ⟨U', l2, c2, s2⟩, hW₁, X', ⟨g', mk, t, L, e1, e2, hq, h1, hL, h2, h3⟩, st⟩ | ⟨q, vm₁, ⟨U', l2, c2, s2⟩, hW₁, X', ⟨g', mk, t, L, E, ce, e1, e2, hq, hce, hcv, hcl, h1, hL, h2, h3⟩, st⟩
  · dsimp only [Pt.U, Pt.locs, Pt.cells, Pt.slots] at X' e1 e2 h1 h2 h3 st
    subst h1; subst h2; subst h3
    exact Or.inl ⟨v, (T.setVm vm₁).calling g' mk (Value.ref b :: As).toArray, t, U', L, hT, X', hL, e1, e2, hq, st⟩
  · dsimp only [Pt.U, Pt.locs, Pt.cells, Pt.slots] at X' e1 e2 h1 h2 h3 st hcl
    subst h1; subst h2; subst h3
    exact Or.inr ⟨q, (T.setVm vm₁).calling g' mk (Value.ref b :: As).toArray, t, U', L, E, ce, hT, X', hL, e1, e2, hq, hce, hcv, vx_cls hW₁ hcl, st⟩
theorem vx_runS (S : CallFix p m c cc nL s args Ts own) (hM : vx_Met l y ws rm Pc Qc XC mc ms free) (cw : CallB R s args own index y bytes maxL ret ws rm mc ms n ∧ (Cond.static y).before args s = true) (hp : PreS s H Pc As)
    (hg : g.method = m) (hn : As.length = n) (hsize : g.locals.size = nL) (hstack : g.stack = As.reverse ++ rest) (hW : 2 * g.monitorRoom + (rest.map fun v => v.category).sum ≤ 8) (hdg : decode cc g.pc = .ok (.invokestatic index, 3)) (hf : cells + mc ≤ R.cells ∧ slots + ms ≤ R.slots) :
    vx_Run p l e R s m args below meth c H locs cells slots mc ms g rest (Qc As.toArray) XC free := by
  have hK : vx_Back l R p e below s args y 3 8 (PreOf R mc ms Pc) (PostOf Qc mc ms free) (vx_Post XC mc ms free) := vx_callBack cw.1 hM hp.1
  obtain ⟨⟨-, -, -, -, -, -, hcode, hini, hy, hlen, hl⟩, hstt⟩ := cw
  obtain ⟨hx, hb, hml, ho, -⟩ := S
  intro T hT X
  rcases vx_callS X hx (bytes := bytes) (maxL := maxL) (ret := ret) ho hl hstt hini hcode hy hK hg (hsize.trans hml.symm) (argsL := As) (rest := rest) (fun sig h => hn.trans (hlen sig h)) hstack hW (by rw [hb]; exact hdg)
    (fun vm₁ hW₁ => ⟨hf.1, hf.2, hp.2 (T.setVm vm₁) hT hW₁⟩) with ⟨v, vm₁, ⟨U', l2, c2, s2⟩, hW₁, X', ⟨g', mk, t, L, e1, e2, hq, h1, hL, h2, h3⟩, st⟩ | ⟨q, vm₁, ⟨U', l2, c2, s2⟩, hW₁, X', ⟨g', mk, t, L, E, ce, e1, e2, hq, hce, hcv, hcl, h1, hL, h2, h3⟩, st⟩
  · dsimp only [Pt.U, Pt.locs, Pt.cells, Pt.slots] at X' e1 e2 h1 h2 h3 st
    subst h1; subst h2; subst h3
    exact Or.inl ⟨v, (T.setVm vm₁).calling g' mk As.toArray, t, U', L, hT, X', hL, e1, e2, hq, st⟩
  · dsimp only [Pt.U, Pt.locs, Pt.cells, Pt.slots] at X' e1 e2 h1 h2 h3 st hcl
    subst h1; subst h2; subst h3
    exact Or.inr ⟨q, (T.setVm vm₁).calling g' mk As.toArray, t, U', L, E, ce, hT, X', hL, e1, e2, hq, hce, hcv, vx_cls hW₁ hcl, st⟩
end Runs
section Rows
variable {p : Program} {l : Launch} {e : Env} {R : Room} {s : State} {m : MethodId} {args : Array Value} {below : List Frame} {meth : Method} {c : Code} {H : Heap} {locs : List Loc} {cells slots : Nat} {Q : State → Prop}
variable {mc ms : Nat} {free : Addr → Prop} {A0 A1 : Nat → Prop} {H0 : Heap} {a : Array Value} {pc : Nat} {ls : Array Slot} {st0 rest : List Value}
theorem vx_keep {st₀ t T' : State} {L : List Loc} (h0 : st₀.heap = H) (e1 : T'.heap = t.heap) (hS : va_S A0 H0 H locs) (hA : ∀ q, q < H.size → A1 q → A0 q) (hf : ∀ q, free q → A0 q) (hL : ∀ q ∈ L, free q.base) (hF : va_F A1 st₀ t) :
    H.size ≤ T'.heap.size ∧ (∀ q : Nat, q < H.size → ¬ A1 q → T'.heap[q]? = H[q]?) ∧ va_S A0 H0 T'.heap (locs ++ L) := by
  obtain ⟨hz, hk⟩ := hF
  rw [h0] at hz hk
  exact ⟨by rw [e1]; exact hz, fun q h1 h2 => by rw [e1]; exact hk q h1 h2,
    ⟨Nat.le_trans hS.1 (by rw [e1]; exact hz), fun q h1 h2 => by rw [e1, hk q (Nat.lt_of_lt_of_le h1 hS.1) (fun z => h2 (hA q (Nat.lt_of_lt_of_le h1 hS.1) z))]; exact hS.2.1 q h1 h2, fun q hq => by
      rcases List.mem_append.mp hq with h | h
      · exact hS.2.2 q h
      · exact hf _ (hL q h)⟩⟩
theorem vx_calli {S SX : Type} {post : Int32 → S → Prop} {px : SX → Prop} {B : S → State → Prop} {BX : String → SX → State → Prop} {AX : Nat → Prop} (hr : vx_Run p l e R s m args below meth c H locs cells slots mc ms (F0 m pc ls st0) rest (va_Qi post B A1 a) (vx_X px BX AX) free) (hS : va_S A0 H0 H locs) (hA : ∀ q, q < H.size → A1 q → A0 q) (hf : ∀ q, free q → A0 q) (hAX : ∀ q, q < H.size → AX q → A0 q)
    (kx : ∀ (E : String) (ce : Cell) (q9 : Addr) (u : SX) (t : State) (H1 : Heap) (locs1 : List Loc), t.heap = H1 → s.vm.Alike t.vm → px u → BX E u t → H.size ≤ H1.size → (∀ q : Nat, q < H.size → ¬ AX q → H1[q]? = H[q]?) → va_S A0 H0 H1 locs1 → H1[q9]? = some ce → ce.vm = .none → s.vm.findClass E = some ce.cls → vx_W p l e R s m args below meth c H1 locs1 (cells + mc) (slots + ms) Q (F0 m pc ls rest) q9)
    (kk : ∀ (r : Int32) (u : S) (t : State) (H1 : Heap) (locs1 : List Loc), t.heap = H1 → s.vm.Alike t.vm → post r u → B u t → H.size ≤ H1.size → (∀ q : Nat, q < H.size → ¬ A1 q → H1[q]? = H[q]?) → va_S A0 H0 H1 locs1 → W p l e R s m args below meth c H1 locs1 (cells + mc) (slots + ms) Q (F0 m (pc + 3) ls (.int r :: rest))) : W p l e R s m args below meth c H locs cells slots Q (F0 m pc ls st0) := by
  intro T hT X
  rcases hr T hT X with ⟨v, st₀, t, T', L, h0, X', hL, e1, e2, ⟨⟨r, u, hv, hp, hb⟩, hF⟩, st⟩ | ⟨q, st₀, t, T', L, E, ce, h0, X', hL, e1, e2, ⟨u, hp, hb, hF⟩, hce, hcv, hcl, st⟩
  · cases hv
    obtain ⟨k1, k2, k3⟩ := vx_keep h0 e1 hS hA hf hL hF
    obtain ⟨t2, a1, b1⟩ := kk r u t T'.heap (locs ++ L) e1.symm (by rw [← e2]; exact X'.warmed.alike) hp hb k1 k2 k3 T' rfl X'
    exact ⟨t2, st t2 a1, b1⟩
  · obtain ⟨k1, k2, k3⟩ := vx_keep h0 e1 hS hAX hf hL hF
    obtain ⟨t2, a1, b1⟩ := kx E ce q u t T'.heap (locs ++ L) e1.symm (by rw [← e2]; exact X'.warmed.alike) hp hb k1 k2 k3 (by rw [e1]; exact hce) hcv hcl T' rfl X'
    exact ⟨t2, st.trans a1, b1⟩
theorem vx_calll {S SX : Type} {post : Int64 → S → Prop} {px : SX → Prop} {B : S → State → Prop} {BX : String → SX → State → Prop} {AX : Nat → Prop} (hr : vx_Run p l e R s m args below meth c H locs cells slots mc ms (F0 m pc ls st0) rest (va_Ql post B A1 a) (vx_X px BX AX) free) (hS : va_S A0 H0 H locs) (hA : ∀ q, q < H.size → A1 q → A0 q) (hf : ∀ q, free q → A0 q) (hAX : ∀ q, q < H.size → AX q → A0 q)
    (kx : ∀ (E : String) (ce : Cell) (q9 : Addr) (u : SX) (t : State) (H1 : Heap) (locs1 : List Loc), t.heap = H1 → s.vm.Alike t.vm → px u → BX E u t → H.size ≤ H1.size → (∀ q : Nat, q < H.size → ¬ AX q → H1[q]? = H[q]?) → va_S A0 H0 H1 locs1 → H1[q9]? = some ce → ce.vm = .none → s.vm.findClass E = some ce.cls → vx_W p l e R s m args below meth c H1 locs1 (cells + mc) (slots + ms) Q (F0 m pc ls rest) q9)
    (kk : ∀ (r : Int64) (u : S) (t : State) (H1 : Heap) (locs1 : List Loc), t.heap = H1 → s.vm.Alike t.vm → post r u → B u t → H.size ≤ H1.size → (∀ q : Nat, q < H.size → ¬ A1 q → H1[q]? = H[q]?) → va_S A0 H0 H1 locs1 → W p l e R s m args below meth c H1 locs1 (cells + mc) (slots + ms) Q (F0 m (pc + 3) ls (.long r :: rest))) : W p l e R s m args below meth c H locs cells slots Q (F0 m pc ls st0) := by
  intro T hT X
  rcases hr T hT X with ⟨v, st₀, t, T', L, h0, X', hL, e1, e2, ⟨⟨r, u, hv, hp, hb⟩, hF⟩, st⟩ | ⟨q, st₀, t, T', L, E, ce, h0, X', hL, e1, e2, ⟨u, hp, hb, hF⟩, hce, hcv, hcl, st⟩
  · cases hv
    obtain ⟨k1, k2, k3⟩ := vx_keep h0 e1 hS hA hf hL hF
    obtain ⟨t2, a1, b1⟩ := kk r u t T'.heap (locs ++ L) e1.symm (by rw [← e2]; exact X'.warmed.alike) hp hb k1 k2 k3 T' rfl X'
    exact ⟨t2, st t2 a1, b1⟩
  · obtain ⟨k1, k2, k3⟩ := vx_keep h0 e1 hS hAX hf hL hF
    obtain ⟨t2, a1, b1⟩ := kx E ce q u t T'.heap (locs ++ L) e1.symm (by rw [← e2]; exact X'.warmed.alike) hp hb k1 k2 k3 (by rw [e1]; exact hce) hcv hcl T' rfl X'
    exact ⟨t2, st.trans a1, b1⟩
theorem vx_callf {S SX : Type} {post : UInt32 → S → Prop} {px : SX → Prop} {B : S → State → Prop} {BX : String → SX → State → Prop} {AX : Nat → Prop} (hr : vx_Run p l e R s m args below meth c H locs cells slots mc ms (F0 m pc ls st0) rest (va_Qf post B A1 a) (vx_X px BX AX) free) (hS : va_S A0 H0 H locs) (hA : ∀ q, q < H.size → A1 q → A0 q) (hf : ∀ q, free q → A0 q) (hAX : ∀ q, q < H.size → AX q → A0 q)
    (kx : ∀ (E : String) (ce : Cell) (q9 : Addr) (u : SX) (t : State) (H1 : Heap) (locs1 : List Loc), t.heap = H1 → s.vm.Alike t.vm → px u → BX E u t → H.size ≤ H1.size → (∀ q : Nat, q < H.size → ¬ AX q → H1[q]? = H[q]?) → va_S A0 H0 H1 locs1 → H1[q9]? = some ce → ce.vm = .none → s.vm.findClass E = some ce.cls → vx_W p l e R s m args below meth c H1 locs1 (cells + mc) (slots + ms) Q (F0 m pc ls rest) q9)
    (kk : ∀ (r : UInt32) (u : S) (t : State) (H1 : Heap) (locs1 : List Loc), t.heap = H1 → s.vm.Alike t.vm → post r u → B u t → H.size ≤ H1.size → (∀ q : Nat, q < H.size → ¬ A1 q → H1[q]? = H[q]?) → va_S A0 H0 H1 locs1 → W p l e R s m args below meth c H1 locs1 (cells + mc) (slots + ms) Q (F0 m (pc + 3) ls (.float r :: rest))) : W p l e R s m args below meth c H locs cells slots Q (F0 m pc ls st0) := by
  intro T hT X
  rcases hr T hT X with ⟨v, st₀, t, T', L, h0, X', hL, e1, e2, ⟨⟨r, u, hv, hp, hb⟩, hF⟩, st⟩ | ⟨q, st₀, t, T', L, E, ce, h0, X', hL, e1, e2, ⟨u, hp, hb, hF⟩, hce, hcv, hcl, st⟩
  · cases hv
    obtain ⟨k1, k2, k3⟩ := vx_keep h0 e1 hS hA hf hL hF
    obtain ⟨t2, a1, b1⟩ := kk r u t T'.heap (locs ++ L) e1.symm (by rw [← e2]; exact X'.warmed.alike) hp hb k1 k2 k3 T' rfl X'
    exact ⟨t2, st t2 a1, b1⟩
  · obtain ⟨k1, k2, k3⟩ := vx_keep h0 e1 hS hAX hf hL hF
    obtain ⟨t2, a1, b1⟩ := kx E ce q u t T'.heap (locs ++ L) e1.symm (by rw [← e2]; exact X'.warmed.alike) hp hb k1 k2 k3 (by rw [e1]; exact hce) hcv hcl T' rfl X'
    exact ⟨t2, st.trans a1, b1⟩
theorem vx_calld {S SX : Type} {post : UInt64 → S → Prop} {px : SX → Prop} {B : S → State → Prop} {BX : String → SX → State → Prop} {AX : Nat → Prop} (hr : vx_Run p l e R s m args below meth c H locs cells slots mc ms (F0 m pc ls st0) rest (va_Qd post B A1 a) (vx_X px BX AX) free) (hS : va_S A0 H0 H locs) (hA : ∀ q, q < H.size → A1 q → A0 q) (hf : ∀ q, free q → A0 q) (hAX : ∀ q, q < H.size → AX q → A0 q)
    (kx : ∀ (E : String) (ce : Cell) (q9 : Addr) (u : SX) (t : State) (H1 : Heap) (locs1 : List Loc), t.heap = H1 → s.vm.Alike t.vm → px u → BX E u t → H.size ≤ H1.size → (∀ q : Nat, q < H.size → ¬ AX q → H1[q]? = H[q]?) → va_S A0 H0 H1 locs1 → H1[q9]? = some ce → ce.vm = .none → s.vm.findClass E = some ce.cls → vx_W p l e R s m args below meth c H1 locs1 (cells + mc) (slots + ms) Q (F0 m pc ls rest) q9)
    (kk : ∀ (r : UInt64) (u : S) (t : State) (H1 : Heap) (locs1 : List Loc), t.heap = H1 → s.vm.Alike t.vm → post r u → B u t → H.size ≤ H1.size → (∀ q : Nat, q < H.size → ¬ A1 q → H1[q]? = H[q]?) → va_S A0 H0 H1 locs1 → W p l e R s m args below meth c H1 locs1 (cells + mc) (slots + ms) Q (F0 m (pc + 3) ls (.double r :: rest))) : W p l e R s m args below meth c H locs cells slots Q (F0 m pc ls st0) := by
  intro T hT X
  rcases hr T hT X with ⟨v, st₀, t, T', L, h0, X', hL, e1, e2, ⟨⟨r, u, hv, hp, hb⟩, hF⟩, st⟩ | ⟨q, st₀, t, T', L, E, ce, h0, X', hL, e1, e2, ⟨u, hp, hb, hF⟩, hce, hcv, hcl, st⟩
  · cases hv
    obtain ⟨k1, k2, k3⟩ := vx_keep h0 e1 hS hA hf hL hF
    obtain ⟨t2, a1, b1⟩ := kk r u t T'.heap (locs ++ L) e1.symm (by rw [← e2]; exact X'.warmed.alike) hp hb k1 k2 k3 T' rfl X'
    exact ⟨t2, st t2 a1, b1⟩
  · obtain ⟨k1, k2, k3⟩ := vx_keep h0 e1 hS hAX hf hL hF
    obtain ⟨t2, a1, b1⟩ := kx E ce q u t T'.heap (locs ++ L) e1.symm (by rw [← e2]; exact X'.warmed.alike) hp hb k1 k2 k3 (by rw [e1]; exact hce) hcv hcl T' rfl X'
    exact ⟨t2, st.trans a1, b1⟩
theorem vx_callv {S SX : Type} {post : S → Prop} {px : SX → Prop} {B : S → State → Prop} {BX : String → SX → State → Prop} {AX : Nat → Prop} (hr : vx_Run p l e R s m args below meth c H locs cells slots mc ms (F0 m pc ls st0) rest (va_Qv post B A1 a) (vx_X px BX AX) free) (hS : va_S A0 H0 H locs) (hA : ∀ q, q < H.size → A1 q → A0 q) (hf : ∀ q, free q → A0 q) (hAX : ∀ q, q < H.size → AX q → A0 q)
    (kx : ∀ (E : String) (ce : Cell) (q9 : Addr) (u : SX) (t : State) (H1 : Heap) (locs1 : List Loc), t.heap = H1 → s.vm.Alike t.vm → px u → BX E u t → H.size ≤ H1.size → (∀ q : Nat, q < H.size → ¬ AX q → H1[q]? = H[q]?) → va_S A0 H0 H1 locs1 → H1[q9]? = some ce → ce.vm = .none → s.vm.findClass E = some ce.cls → vx_W p l e R s m args below meth c H1 locs1 (cells + mc) (slots + ms) Q (F0 m pc ls rest) q9)
    (kk : ∀ (u : S) (t : State) (H1 : Heap) (locs1 : List Loc), t.heap = H1 → s.vm.Alike t.vm → post u → B u t → H.size ≤ H1.size → (∀ q : Nat, q < H.size → ¬ A1 q → H1[q]? = H[q]?) → va_S A0 H0 H1 locs1 → W p l e R s m args below meth c H1 locs1 (cells + mc) (slots + ms) Q (F0 m (pc + 3) ls (rest))) : W p l e R s m args below meth c H locs cells slots Q (F0 m pc ls st0) := by
  intro T hT X
  rcases hr T hT X with ⟨v, st₀, t, T', L, h0, X', hL, e1, e2, ⟨⟨u, hv, hp, hb⟩, hF⟩, st⟩ | ⟨q, st₀, t, T', L, E, ce, h0, X', hL, e1, e2, ⟨u, hp, hb, hF⟩, hce, hcv, hcl, st⟩
  · cases hv
    obtain ⟨k1, k2, k3⟩ := vx_keep h0 e1 hS hA hf hL hF
    obtain ⟨t2, a1, b1⟩ := kk u t T'.heap (locs ++ L) e1.symm (by rw [← e2]; exact X'.warmed.alike) hp hb k1 k2 k3 T' rfl X'
    exact ⟨t2, st t2 a1, b1⟩
  · obtain ⟨k1, k2, k3⟩ := vx_keep h0 e1 hS hAX hf hL hF
    obtain ⟨t2, a1, b1⟩ := kx E ce q u t T'.heap (locs ++ L) e1.symm (by rw [← e2]; exact X'.warmed.alike) hp hb k1 k2 k3 (by rw [e1]; exact hce) hcv hcl T' rfl X'
    exact ⟨t2, st.trans a1, b1⟩
/-- caught by the row x of this method's table; the rows ahead don't take it -/
theorem vx_catch {own name : String} {E : String} {ce : Cell} {q : Addr} (hown : s.vm.findClass own = some m.cls) (pre : List ExceptionTableEntry) (x : ExceptionTableEntry) (suf : List ExceptionTableEntry) (hsplit : c.exceptionTable.toList = pre ++ x :: suf)
    (hpass : ∀ z ∈ pre, covers z pc = false ∨ (z.catchType ≠ 0 ∧ ∃ nm : String, (Cond.classLink own z.catchType nm).before args s = true ∧ va_Nc E nm s)) (hx : covers x pc = true) (h0 : x.catchType ≠ 0)
    (hlink : (Cond.classLink own x.catchType name).before args s = true) (hcast : (Cond.castable E name).before args s = true) (hcell : H[q]? = some ce) (hv : ce.vm = .none) (hcl : s.vm.findClass E = some ce.cls)
    (kk : W p l e R s m args below meth c H locs cells slots Q (F0 m x.handlerPc ls [.ref q])) : vx_W p l e R s m args below meth c H locs cells slots Q (F0 m pc ls rest) q := by
  intro T hT X
  have hpl : e.platform.magicAccessors = ({} : Platform).magicAccessors := by rw [X.admits.platform]
  obtain ⟨c3, c4, hc3, hc4, hasg⟩ := Cond.castable_spec hcast
  cases Option.some.inj (hc3.symm.trans hcl)
  obtain ⟨c5, hc5, hcl5⟩ := Cond.classLink_spec hown hlink e.platform hpl
  cases Option.some.inj (hc4.symm.trans hc5)
  obtain ⟨vm', X', st⟩ := X.thenCaughtThrough q (g := F0 m pc ls rest) rfl (Steps.refl _) (by rw [hT]; exact hcell) (by rw [hv]; rfl) (by obtain ⟨k9, h9, -⟩ := Vm.findClass_spec hcl; exact ⟨k9, h9⟩) pre x suf hsplit
    (fun z hz => by
      rcases hpass z hz with h | ⟨hz0, nm, hl1, hn1⟩
      · exact Or.inl h
      · obtain ⟨c6, hc6, hcl6⟩ := Cond.classLink_spec hown hl1 e.platform hpl
        obtain ⟨a8, b8, h1, h2, h3⟩ := hn1
        cases Option.some.inj (h1.symm.trans hcl)
        cases Option.some.inj (h2.symm.trans hc6)
        exact Or.inr ⟨hz0, _, hcl6, h3⟩) hx (Or.inr ⟨h0, c4, hcl5, hasg⟩)
  obtain ⟨t, a1, b1⟩ := kk (T.setVm vm') hT X'
  exact ⟨t, st.trans a1, b1⟩
end Rows
section Ends
variable {p : Program} {l : Launch} {e : Env} {R : Room} {s : State} {m : MethodId} {args : Array Value} {below : List Frame} {meth : Method} {c : Code} {H : Heap} {locs : List Loc} {cells slots : Nat} {Q : State → Prop}
variable {mc ms : Nat} {free : Addr → Prop} {A0 A1 : Nat → Prop} {H0 : Heap} {a : Array Value} {ls : Array Slot} {st0 rest : List Value}
variable {Qc : Array Value → State → Outcome → State → Prop} {XC : String → State → State → Prop}
/-- what a body that may throw owes at its end -/
def vx_MQ (below : List Frame) (Qc : Array Value → State → Outcome → State → Prop) (XC : String → State → State → Prop) (a : Array Value) (s : State) (mc ms : Nat) (free : Addr → Prop) : State → Prop := fun t =>
  ∃ o, t.status = .running ∧ Ended t below o ∧ vx_Q Qc XC mc ms free a s o t
theorem vx_ret {g : JFrame} {mc ms : Nat} (k : W p l e R s m args below meth c H locs cells slots (MQ below Qc args s mc ms free) g) : W p l e R s m args below meth c H locs cells slots (vx_MQ below Qc XC args s mc ms free) g := by
  intro T hT X
  obtain ⟨t, a1, o, b1, b2, b3, b4⟩ := k T hT X
  exact ⟨t, a1, o, b1, b2, Or.inl ⟨b3, b4⟩⟩
/-- not caught here: it goes on to the caller -/
theorem vx_widen {g : JFrame} {q : Addr} {k n : Nat} (h1 : cells ≤ k) (h2 : slots ≤ n) (kk : vx_W p l e R s m args below meth c H locs k n Q g q) : vx_W p l e R s m args below meth c H locs cells slots Q g q := fun T hT X => kk T hT (stand_widen X h1 h2)
theorem vx_out {pc : Nat} {E : String} {ce : Cell} {q : Addr} {mc ms : Nat} (hout : ∀ x ∈ c.exceptionTable.toList, covers x pc = false) (hlocks : meth.locks = false) (hcell : H[q]? = some ce) (hv : ce.vm = .none) (hcl : s.vm.findClass E = some ce.cls)
    (hx : ∀ t : State, t.heap = H → s.vm.Alike t.vm → XC E s t) (hf : ∀ z ∈ locs, free z.base) (hc : cells ≤ mc) (hs : slots ≤ ms) :
    vx_W p l e R s m args below meth c H locs cells slots (vx_MQ below Qc XC args s mc ms free) (F0 m pc ls rest) q := by
  intro T hT X
  obtain ⟨st1, hrun, hend, hW, hsm⟩ := X.leaveThrown q (g := F0 m pc ls rest) rfl rfl rfl hout hlocks
  have hcell9 : (T.setFrames (.throwing q :: below)).heap[q]? = some ce := by
    show T.heap[q]? = some ce
    rw [hT]; exact hcell
  exact ⟨_, st1, .threw q, hrun, hend, Or.inr ⟨q, rfl, E, ce, locs, hx _ hT hW.alike, hcell9, hv, hcl, hW, hsm.mono hc hs, hf⟩⟩
theorem vx_frame {U : State} {k n : Nat} (h : s.sameButNew ({ U with vm := s.vm } : State) locs k n) : s.heap.size ≤ U.heap.size ∧ ∀ q : Nat, q < s.heap.size → (∀ z ∈ locs, z.base ≠ q) → U.heap[q]? = s.heap[q]? := by
  obtain ⟨-, h2, -, -, -, h6⟩ := h
  refine ⟨h2, fun q hq hz => ?_⟩
  obtain ⟨c9, e1, e2, e3, e4⟩ := h6 q _ (Array.getElem?_eq_getElem hq)
  have hs : c9.slots = (s.heap[q]).slots := Array.ext_getElem? fun i => e4 i fun hm => hz _ hm rfl
  have h9 : c9 = s.heap[q] := by
    rw [hs] at e2
    exact e2
  have e5 : U.heap[q]? = some c9 := e1
  rw [e5, h9, Array.getElem?_eq_getElem hq]
/-- the words of a throw but the four that speak of the heap -/
def vx_no (w : Cond) : Bool := decide (w ≠ .isRef (.static Bundle.tN "UNASSIGNED_STACK" Bundle.steD)) && decide (w ≠ .isRef (.static Bundle.tN "SUPPRESSED_SENTINEL" Bundle.listD)) && decide (w ≠ .laysStatic Bundle.tN "UNASSIGNED_STACK" Bundle.steD) && decide (w ≠ .laysStatic Bundle.tN "SUPPRESSED_SENTINEL" Bundle.listD)
def vx_at0 (own : String) (ic : Nat) (X : String) (names : List String) : List Cond := (Bundle.ownAtoms0 own ic X names).filter vx_no
def vx_atS (own : String) (ic : Nat) (X : String) (names : List String) : List Cond := (Bundle.ownAtoms own ic X names).filter vx_no
/-- a word that the tables alone decide, or a good one -/
def vx_ot (w : Cond) : Bool := w.onTables || goodWord w
theorem vx_ot_at {args a' : Array Value} {s U : State} {w : Cond} (hW : s.WarmedH U.vm) (hvm : s.vm = U.vm) (hg : vx_ot w = true) (h : w.before args s = true) : w.before a' U = true := by
  simp only [vx_ot, Bool.or_eq_true] at hg
  rcases hg with hg | hg
  · exact va_tabs hg hvm h
  · exact word_at hW (good_of_word hg) h
/-- a list's words: the good ones out of the method's own list, the others by premises of their own -/
theorem vx_hat {args : Array Value} {s : State} {L B : List Cond} (h1 : ∀ w ∈ L.filter goodWord, w.before args s = true) (h2 : ∀ w ∈ L.filter (fun w => !goodWord w), w ∈ B) (h3 : ∀ w ∈ B, w.before args s = true) : ∀ w ∈ L, w.before args s = true := by
  intro w hw
  by_cases g : goodWord w = true
  · exact h1 w (List.mem_filter.mpr ⟨hw, g⟩)
  · refine h3 w (h2 w (List.mem_filter.mpr ⟨hw, ?_⟩))
    show (!goodWord w) = true
    cases hgw : goodWord w
    · rfl
    · exact absurd hgw g
theorem vx_c {args : Array Value} {s : State} {w : Cond} {B : List Cond} (h : w.before args s = true) (t : ∀ w ∈ B, w.before args s = true) : ∀ w' ∈ w :: B, w'.before args s = true := fun w' h' => (List.mem_cons.mp h').elim (fun e => by rw [e]; exact h) (t w')
theorem vx_n {args : Array Value} {s : State} : ∀ w ∈ ([] : List Cond), w.before args s = true := fun _ h => nomatch h
theorem vx_own {args : Array Value} {s : State} {L : List Cond} (h1 : ∀ w ∈ L.filter vx_no, w.before args s = true)
    (hU : (Cond.isRef (.static Bundle.tN "UNASSIGNED_STACK" Bundle.steD)).before args s = true) (hN : (Cond.isRef (.static Bundle.tN "SUPPRESSED_SENTINEL" Bundle.listD)).before args s = true)
    (lU : (Cond.laysStatic Bundle.tN "UNASSIGNED_STACK" Bundle.steD).before args s = true) (lN : (Cond.laysStatic Bundle.tN "SUPPRESSED_SENTINEL" Bundle.listD).before args s = true) : ∀ w ∈ L, w.before args s = true := by
  intro w hw
  by_cases e1 : w = .isRef (.static Bundle.tN "UNASSIGNED_STACK" Bundle.steD)
  · rw [e1]; exact hU
  · by_cases e2 : w = .isRef (.static Bundle.tN "SUPPRESSED_SENTINEL" Bundle.listD)
    · rw [e2]; exact hN
    · by_cases e3 : w = .laysStatic Bundle.tN "UNASSIGNED_STACK" Bundle.steD
      · rw [e3]; exact lU
      · by_cases e4 : w = .laysStatic Bundle.tN "SUPPRESSED_SENTINEL" Bundle.listD
        · rw [e4]; exact lN
        · exact h1 w (List.mem_filter.mpr ⟨hw, by unfold vx_no; rw [decide_eq_true e1, decide_eq_true e2, decide_eq_true e3, decide_eq_true e4]; rfl⟩)
/-- where a static field lies, its class's statics cell in H -/
def vx_L (C n d : String) (A : Nat → Prop) (U : State) (H : Heap) : Prop := ∃ (c : ClassId) (k : Class) (i : Nat) (f : Field) (a : Nat) (cell : Cell), U.vm.findClass C = some c ∧ U.fieldFound? C n d = some (c, k, i, f) ∧ f.isStatic = true ∧ k.statics = some a ∧ H[a]? = some cell ∧ cell.vm.isStatics = true ∧ cell.cls = c ∧ f.slot < cell.slots.size ∧ k.staticTypes[f.slot]? = some f.type ∧ ¬ A a
theorem vx_L.moved {C n d : String} {A : Nat → Prop} {u U : State} {H : Heap} (hvm : u.vm.Alike U.vm) (h : vx_L C n d A u H) : vx_L C n d A U H := by
  obtain ⟨c, k, i, f, a, cell, h1, h2, h3, h4, h5, h6, h7, h8, h9, h10⟩ := h
  obtain ⟨k', hi', he⟩ := State.fieldFound?_setVm hvm h2
  exact ⟨c, k', i, f, a, cell, by rw [hvm.findClass]; exact h1, hi', h3, by rw [he]; exact h4, h5, h6, h7, h8, by rw [he]; exact h9, h10⟩
theorem vx_L.kept {C n d : String} {A : Nat → Prop} {U : State} {H H1 : Heap} (h : vx_L C n d A U H) (hq : ∀ a : Nat, a < H.size → ¬ A a → H1[a]? = H[a]?) : vx_L C n d A U H1 := by
  obtain ⟨c, k, i, f, a, cell, h1, h2, h3, h4, h5, h6, h7, h8, h9, h10⟩ := h
  exact ⟨c, k, i, f, a, cell, h1, h2, h3, h4, by rw [hq a (Array.getElem?_eq_some_iff.mp h5).1 h10]; exact h5, h6, h7, h8, h9, h10⟩
theorem vx_L.narrow {C n d : String} {A B : Nat → Prop} {U : State} {H : Heap} (h : vx_L C n d A U H) (hAB : ∀ q, B q → A q) : vx_L C n d B U H := by
  obtain ⟨c, k, i, f, a, cell, h1, h2, h3, h4, h5, h6, h7, h8, h9, h10⟩ := h
  exact ⟨c, k, i, f, a, cell, h1, h2, h3, h4, h5, h6, h7, h8, h9, fun z => h10 (hAB _ z)⟩
theorem vx_L.word {C n d : String} {A : Nat → Prop} {s : State} {args : Array Value} (h : vx_L C n d A s s.heap) : (Cond.laysStatic C n d).before args s = true := by
  obtain ⟨c, k, i, f, a, cell, h1, h2, h3, h4, h5, h6, h7, h8, h9, -⟩ := h
  show (Cond.laysStatic C n d).holds args s none s [] = true
  exact Cond.laysStatic_of h1 h2 h3 h4 h5 h6 h7 h8 h9
/-- .. and what it holds: null or some reference -/
def vx_Zq (C n d : String) (A : Nat → Prop) (U : State) (H : Heap) : Prop := va_Zq C n d A U H ∧ vx_L C n d A U H
theorem vx_Zq.moved {C n d : String} {A : Nat → Prop} {u U : State} {H : Heap} (hvm : u.vm.Alike U.vm) (h : vx_Zq C n d A u H) : vx_Zq C n d A U H := ⟨va_Zq.moved hvm h.1, vx_L.moved hvm h.2⟩
theorem vx_Zq.kept {C n d : String} {A : Nat → Prop} {U : State} {H H1 : Heap} (h : vx_Zq C n d A U H) (hq : ∀ a : Nat, a < H.size → ¬ A a → H1[a]? = H[a]?) : vx_Zq C n d A U H1 := ⟨va_Zq.kept h.1 hq, vx_L.kept h.2 hq⟩
theorem vx_Zq.narrow {C n d : String} {A B : Nat → Prop} {U : State} {H : Heap} (h : vx_Zq C n d A U H) (hAB : ∀ q, B q → A q) : vx_Zq C n d B U H := ⟨va_Zq.narrow h.1 hAB, vx_L.narrow h.2 hAB⟩
theorem vx_Zqof {args : Array Value} {s : State} {C n d : String} {A : Nat → Prop} (hl : (Cond.laysStatic C n d).before args s = true) (hini : (Cond.initialized C).before args s = true) (h : (Cond.isRef (.static C n d)).before args s = true) (hA : ∀ a : Nat, a < s.heap.size → ¬ A a) : vx_Zq C n d A s s.heap := by
  refine ⟨va_Zqof hl hini h hA, ?_⟩
  obtain ⟨c, k, i, f, a, cell, h1, h2, h3, h4, h5, h6, h7, h8, h9⟩ := Cond.laysStatic_spec hl
  exact ⟨c, k, i, f, a, cell, h1, h2, h3, h4, h5, h6, h7, h8, h9, hA a (Array.getElem?_eq_some_iff.mp h5).1⟩
theorem vx_isRef {C n d : String} {v : Value} {A : Nat → Prop} {s : State} {args : Array Value} (h : va_Z C n d v A s s.heap) (hv : v.isRef = true) : (Cond.isRef (.static C n d)).before args s = true := by
  obtain ⟨cf, kf, fi, f, a, cell, h1, h2, h3, h4, h5, h6, h7, -⟩ := h
  have he : (Term.static C n d).eval args s none [] s = some v := by
    simp [Term.eval, State.fieldNamed?, h1, h2, h4, h5, h6, h7]
  simp only [Cond.before, Cond.holds, Cond.value, he]
  cases v <;> simp_all [Value.isRef]
theorem vx_isRefq {C n d : String} {A : Nat → Prop} {s : State} {args : Array Value} (h : va_Zq C n d A s s.heap) : (Cond.isRef (.static C n d)).before args s = true := by
  rcases h with h | ⟨t, h⟩
  · exact vx_isRef h rfl
  · exact vx_isRef h rfl
/-- the same frame, seen from here: as if the method were called anew in this heap -/
theorem vx_rebase {T : State} (X : Stand p l e R s m args below meth c T locs cells slots) {R' : Room} (hf : R'.frames ≤ R.frames) (hl : R'.locals ≤ R.locals) (hc : cells + R'.cells ≤ R.cells) (hs : slots + R'.slots ≤ R.slots) :
    Stand p l e R' ((T.setVm s.vm).setFrames (.invoking m args :: below)) m args below meth c T [] 0 0 := by
  have htop : (T.setVm s.vm).topJava?.isSome := X.here.top
  have hF : ((T.setVm s.vm).setFrames (.invoking m args :: below)).frames = .invoking m args :: below := State.frames_setFrames _ (State.cur_lt_of_top htop)
  obtain ⟨g₀, hg0⟩ := Option.isSome_iff_exists.mp htop
  obtain ⟨r, hr⟩ := State.topJava?_eq_some.mp hg0
  have hl9 : e.platform.stackLimits (T.setVm s.vm).me = e.platform.stackLimits s.me := X.limits
  have hb9 : (T.setVm s.vm).me.stackBytes = s.me.stackBytes := X.bytes
  refine ⟨X.admits, X.cas, X.clock, hF, ?_, X.hears, X.method, X.code, X.here, X.tail, X.warmed, ?_, ?_, ?_⟩
  · have h := X.room
    have hU : ((T.setVm s.vm).setFrames (.invoking m args :: below)).localsInUse = s.localsInUse := by
      rw [State.localsInUse_invoking hF (meth := meth) (c := c) X.method X.code, State.localsInUse_invoking X.frames X.method X.code]
    simp only [State.hasRoom, Bool.and_eq_true, decide_eq_true_eq] at h ⊢
    obtain ⟨⟨⟨⟨h1, h2, h3, h4, h5, h6⟩, h7⟩, h8⟩, h9⟩ := h
    rw [X.frames, List.length_cons] at h2 h3
    have q1 := X.heapSize
    have q2 := X.used
    simp only [hF, hU, List.length_cons, State.stackLimits_setFrames, State.stackBytes_setFrames, hl9, hb9]
    refine ⟨⟨⟨⟨by omega, by omega, by omega, by omega, by omega, h6⟩, ?_⟩, ?_⟩, X.book⟩
    · show T.heap.size + R'.cells ≤ e.platform.maxCells
      omega
    · show T.slotsUsed + R'.slots ≤ e.platform.maxSlots
      omega
  · rw [State.stackLimits_setFrames]; rfl
  · rw [State.stackBytes_setFrames]; rfl
  · refine ⟨?_, Nat.le_refl _, Nat.le_refl _, ?_, ?_, fun a c9 h9 => ⟨c9, h9, rfl, rfl, fun _ _ => rfl⟩⟩
    · obtain ⟨t, ht, -⟩ := State.frames_cons hr
      show T.setVm s.vm = { ((T.setVm s.vm).setFrames (.invoking m args :: below)).setFrames (T.setVm s.vm).frames with heap := T.heap, slotsUsed := T.slotsUsed }
      rw [State.setFrames_setFrames, State.setFrames_self ht]
      rfl
    · show T.slotsUsed = T.slotsUsed + ((T.heap.toList.drop T.heap.size).map (·.slots.size)).sum
      rw [List.drop_eq_nil_of_le (Nat.le_of_eq Array.length_toList)]
      rfl
    · show ((T.heap.toList.drop T.heap.size).map (·.slots.size)).sum ≤ 0
      rw [List.drop_eq_nil_of_le (Nat.le_of_eq Array.length_toList)]
      exact Nat.le_refl _
/-- 'throw new E()': new; dup; invokespecial; athrow -/
theorem vx_throw0 {cc : ByteArray} {pc : Nat} (hexec : p.tables.exec = Jvm.exec) (hb : c.code = cc) (hl : l.stackTraces = false) {own cls : String} {names : List String} {ik ic mc ms : Nat} {A : Nat → Prop}
    (hown : s.vm.findClass own = some m.cls) (hcls : Bundle.fit cls = true) (hnames : ∀ n ∈ names, Bundle.fit n = true)
    (hk : (Cond.classLink own ik cls).before args s = true) (hini : (Cond.initialized cls).before args s = true) (hat : ∀ w ∈ vx_at0 own ic cls names, w.before args s = true)
    (hgood : ∀ w ∈ Cond.classLink own ik cls :: Cond.initialized cls :: vx_at0 own ic cls names, vx_ot w = true)
    (hU : vx_Zq Bundle.tN "UNASSIGNED_STACK" Bundle.steD A s s.heap) (hN : vx_Zq Bundle.tN "SUPPRESSED_SENTINEL" Bundle.listD A s s.heap) (hS : va_S A s.heap H locs) (hsize : ls.size = c.maxLocals)
    (d0 : decode cc pc = .ok (.new ik, 3)) (d3 : decode cc (pc + 3) = .ok (.dup, 1)) (d4 : decode cc (pc + 4) = .ok (.invokespecial ic, 3)) (d7 : decode cc (pc + 7) = .ok (.athrow, 1))
    (hout : ∀ x ∈ c.exceptionTable.toList, covers x (pc + 7) = false)
    (hRframes : names.length + 3 < R.frames) (hRlocals : (rest.map fun v => v.category).sum + (13 * (names.length + 1) + 42) ≤ R.locals) (hRcells : cells + 1 ≤ R.cells) (hRslots : slots + 6 ≤ R.slots) (hlocks : meth.locks = false)
    (hx : ∀ t : State, s.vm.Alike t.vm → H.size ≤ t.heap.size → (∀ q : Nat, q < H.size → t.heap[q]? = H[q]?) → XC cls s t)
    (hf : ∀ z ∈ locs, free z.base) (hc : cells + 1 ≤ mc) (hs : slots + 6 ≤ ms) :
    W p l e R s m args below meth c H locs cells slots (vx_MQ below Qc XC args s mc ms free) (F0 m pc ls rest) := by
  intro T hT X
  have htr : e.platform.stackTraces = false := (show e.platform.stackTraces = l.stackTraces by rw [X.admits.platform]).trans hl
  have Y := vx_rebase X (R' := { frames := R.frames, locals := R.locals, cells := 1, slots := 6 }) (Nat.le_refl _) (Nat.le_refl _) hRcells hRslots
  obtain ⟨s', hA⟩ : ∃ z, z = (T.setVm s.vm).setFrames (.invoking m args :: below) := ⟨_, rfl⟩
  rw [← hA] at Y
  have hvm : s'.vm = s.vm := by rw [hA]; rfl
  have hhp : s'.heap = H := by rw [hA]; exact hT
  have hW0 : s.WarmedH s'.vm := by rw [hvm]; exact State.WarmedH.refl s
  have hat' : ∀ w ∈ vx_at0 own ic cls names, w.before args s' = true := fun w hw => vx_ot_at hW0 hvm.symm (hgood w (List.mem_cons_of_mem _ (List.mem_cons_of_mem _ hw))) (hat w hw)
  have hk' : (Cond.classLink own ik cls).before args s' = true := vx_ot_at hW0 hvm.symm (hgood _ List.mem_cons_self) hk
  have hini' : (Cond.initialized cls).before args s' = true := vx_ot_at hW0 hvm.symm (hgood _ (List.mem_cons_of_mem _ List.mem_cons_self)) hini
  have hU' : vx_Zq Bundle.tN "UNASSIGNED_STACK" Bundle.steD A s' s'.heap := by rw [hhp]; exact vx_Zq.moved hW0.alike (hU.kept hS.2.1)
  have hN' : vx_Zq Bundle.tN "SUPPRESSED_SENTINEL" Bundle.listD A s' s'.heap := by rw [hhp]; exact vx_Zq.moved hW0.alike (hN.kept hS.2.1)
  have h : ∀ w ∈ Bundle.ownAtoms0 own ic cls names, w.before args s' = true := vx_own hat' (vx_isRefq hU'.1) (vx_isRefq hN'.1) hU'.2.word hN'.2.word
  have hown' : s'.vm.findClass own = some m.cls := by rw [hvm]; exact hown
  have hins : (Cond.instantiable cls 6).before args s' = true := h _ (by simp [Bundle.ownAtoms0])
  obtain ⟨vm₁, cX, kX, hfX, hkX, -, -, X₁, st1⟩ := Y.newCold hexec (own := own) (C := cls) (index := ik) (n := 6) hown' hk' hins hini'
    (g := F0 m pc ls rest) rfl (by rw [hb]; exact d0) (Nat.le_refl _) (Nat.le_refl _)
  generalize hT1 : (T.setVm vm₁).pushCell { cls := cX, slots := kX.instanceTypes.map defaultValue, vm := .none } = T1 at X₁ st1
  have hcat : (Value.ref T.heap.size).category = 1 := rfl
  have hcellA : T1.heap[T.heap.size]? = some (freshCell cX kX) := by rw [← hT1]; exact State.heap_pushCell_size _ _
  have d3' : decode c.code (pc + 3) = .ok (.dup, 1) := by rw [hb]; exact d3
  obtain ⟨U, hsteps, hrun, hend, hW, hsame, ce, hce, hO⟩ := X₁.ctorThrow0 hexec htr (own := own) (cls := cls) (names := names) (ic := ic) hown' hcls hnames h (fun x hx => nomatch hx) hfX hkX hcellA (by rw [hhp, hT]; exact Nat.le_refl _)
    (g := { method := m, pc := pc + 4, locals := ls, stack := .ref T.heap.size :: .ref T.heap.size :: rest, locked := none }) rfl hsize rfl rfl (rest := rest) rfl
    (by rw [hb]; exact d4) (by rw [hb]; exact d7) hout hRframes (by simp only [List.map_cons, List.sum_cons, hcat]; omega) hlocks
  obtain ⟨f1, f2⟩ := vx_frame hsame
  rw [hhp] at f1 f2
  have hWs : s.WarmedH U.vm := State.WarmedH.trans hW0 hW
  have hcl : s.vm.findClass cls = some ce.cls := by
    have h9 := hO.cls
    rw [hvm] at h9
    exact h9
  have hall : s.sameButNew ({ U with vm := s.vm } : State) locs mc ms := by
    subst hA
    obtain ⟨e1, e2⟩ := hsame
    rw [State.setFrames_setFrames] at e1
    have h2 : (T.setVm s.vm).sameButNew ({ U with vm := s.vm } : State) [] (0 + 1) (0 + 6) := ⟨e1, e2⟩
    have h3 := X.same.trans h2
    rw [List.append_nil] at h3
    exact h3.mono hc hs
  refine ⟨U, ?_, .threw T.heap.size, hrun, hend, Or.inr ⟨T.heap.size, rfl, cls, ce, locs, hx U hWs.alike f1 (fun q hq => f2 q hq (fun z hz => nomatch hz)), hce, hO.vm, hcl, hWs, hall, hf⟩⟩
  refine st1 _ ?_
  show Steps p.tables e below (T1.setTop { method := m, pc := pc + 3, locals := ls, stack := .ref T.heap.size :: rest, locked := none }) _
  jvm_step X₁.here [X₁.here.top, hexec, d3', Value.category]
  exact hsteps
/-- 'throw new E("text")': new; dup; ldc; invokespecial; athrow -/
theorem vx_throwS {cc : ByteArray} {pc : Nat} (hexec : p.tables.exec = Jvm.exec) (hb : c.code = cc) (hl : l.stackTraces = false) {own cls text : String} {names : List String} {ik is ic mc ms sa : Nat} {A : Nat → Prop}
    (hown : s.vm.findClass own = some m.cls) (hcls : Bundle.fit cls = true) (hnames : ∀ n ∈ names, Bundle.fit n = true)
    (hk : (Cond.classLink own ik cls).before args s = true) (hini : (Cond.initialized cls).before args s = true) (hstr : vk_R own is text sa s) (hat : ∀ w ∈ vx_atS own ic cls names, w.before args s = true)
    (hgood : ∀ w ∈ Cond.classLink own ik cls :: Cond.initialized cls :: vx_atS own ic cls names, vx_ot w = true)
    (hU : vx_Zq Bundle.tN "UNASSIGNED_STACK" Bundle.steD A s s.heap) (hN : vx_Zq Bundle.tN "SUPPRESSED_SENTINEL" Bundle.listD A s s.heap) (hS : va_S A s.heap H locs) (hsize : ls.size = c.maxLocals)
    (d0 : decode cc pc = .ok (.new ik, 3)) (d3 : decode cc (pc + 3) = .ok (.dup, 1)) (d4 : decode cc (pc + 4) = .ok (.ldc is, 2)) (d6 : decode cc (pc + 6) = .ok (.invokespecial ic, 3)) (d9 : decode cc (pc + 9) = .ok (.athrow, 1))
    (hout : ∀ x ∈ c.exceptionTable.toList, covers x (pc + 9) = false)
    (hRframes : names.length + 3 < R.frames) (hRlocals : (rest.map fun v => v.category).sum + (13 * (names.length + 1) + 43) ≤ R.locals) (hRcells : cells + 1 ≤ R.cells) (hRslots : slots + 6 ≤ R.slots) (hlocks : meth.locks = false)
    (hx : ∀ t : State, s.vm.Alike t.vm → H.size ≤ t.heap.size → (∀ q : Nat, q < H.size → t.heap[q]? = H[q]?) → XC cls s t)
    (hf : ∀ z ∈ locs, free z.base) (hc : cells + 1 ≤ mc) (hs : slots + 6 ≤ ms) :
    W p l e R s m args below meth c H locs cells slots (vx_MQ below Qc XC args s mc ms free) (F0 m pc ls rest) := by
  intro T hT X
  have htr : e.platform.stackTraces = false := (show e.platform.stackTraces = l.stackTraces by rw [X.admits.platform]).trans hl
  have Y := vx_rebase X (R' := { frames := R.frames, locals := R.locals, cells := 1, slots := 6 }) (Nat.le_refl _) (Nat.le_refl _) hRcells hRslots
  obtain ⟨s', hA⟩ : ∃ z, z = (T.setVm s.vm).setFrames (.invoking m args :: below) := ⟨_, rfl⟩
  rw [← hA] at Y
  have hvm : s'.vm = s.vm := by rw [hA]; rfl
  have hhp : s'.heap = H := by rw [hA]; exact hT
  have hW0 : s.WarmedH s'.vm := by rw [hvm]; exact State.WarmedH.refl s
  have hat' : ∀ w ∈ vx_atS own ic cls names, w.before args s' = true := fun w hw => vx_ot_at hW0 hvm.symm (hgood w (List.mem_cons_of_mem _ (List.mem_cons_of_mem _ hw))) (hat w hw)
  have hk' : (Cond.classLink own ik cls).before args s' = true := vx_ot_at hW0 hvm.symm (hgood _ List.mem_cons_self) hk
  have hini' : (Cond.initialized cls).before args s' = true := vx_ot_at hW0 hvm.symm (hgood _ (List.mem_cons_of_mem _ List.mem_cons_self)) hini
  have hU' : vx_Zq Bundle.tN "UNASSIGNED_STACK" Bundle.steD A s' s'.heap := by rw [hhp]; exact vx_Zq.moved hW0.alike (hU.kept hS.2.1)
  have hN' : vx_Zq Bundle.tN "SUPPRESSED_SENTINEL" Bundle.listD A s' s'.heap := by rw [hhp]; exact vx_Zq.moved hW0.alike (hN.kept hS.2.1)
  have h : ∀ w ∈ Bundle.ownAtoms own ic cls names, w.before args s' = true := vx_own hat' (vx_isRefq hU'.1) (vx_isRefq hN'.1) hU'.2.word hN'.2.word
  have hown' : s'.vm.findClass own = some m.cls := by rw [hvm]; exact hown
  have hins : (Cond.instantiable cls 6).before args s' = true := h _ (by simp [Bundle.ownAtoms])
  obtain ⟨vm₁, cX, kX, hfX, hkX, -, -, X₁, st1⟩ := Y.newCold hexec (own := own) (C := cls) (index := ik) (n := 6) hown' hk' hins hini'
    (g := F0 m pc ls rest) rfl (by rw [hb]; exact d0) (Nat.le_refl _) (Nat.le_refl _)
  generalize hT1 : (T.setVm vm₁).pushCell { cls := cX, slots := kX.instanceTypes.map defaultValue, vm := .none } = T1 at X₁ st1
  have hcat : (Value.ref T.heap.size).category = 1 := rfl
  have hcellA : T1.heap[T.heap.size]? = some (freshCell cX kX) := by rw [← hT1]; exact State.heap_pushCell_size _ _
  have d3' : decode c.code (pc + 3) = .ok (.dup, 1) := by rw [hb]; exact d3
  have d4' : decode c.code (pc + 4) = .ok (.ldc is, 2) := by rw [hb]; exact d4
  have hstr' : vk_R own is text sa s' := vk_R.warm hW0 hstr
  obtain ⟨U, hsteps, hrun, hend, hW, hsame, ce, hce, hO⟩ := X₁.ctorThrowS hexec htr (own := own) (cls := cls) (names := names) (ic := ic) hown' hcls hnames h (fun x hx => nomatch hx) hfX hkX hcellA (by rw [hhp, hT]; exact Nat.le_refl _) (msg := .ref sa) rfl
    (g := { method := m, pc := pc + 6, locals := ls, stack := .ref sa :: .ref T.heap.size :: .ref T.heap.size :: rest, locked := none }) rfl hsize rfl rfl (rest := rest) rfl
    (by rw [hb]; exact d6) (by rw [hb]; exact d9) hout hRframes (by simp only [List.map_cons, List.sum_cons, hcat]; omega) hlocks
  obtain ⟨f1, f2⟩ := vx_frame hsame
  rw [hhp] at f1 f2
  have hWs : s.WarmedH U.vm := State.WarmedH.trans hW0 hW
  have hcl : s.vm.findClass cls = some ce.cls := by
    have h9 := hO.cls
    rw [hvm] at h9
    exact h9
  have hall : s.sameButNew ({ U with vm := s.vm } : State) locs mc ms := by
    subst hA
    obtain ⟨e1, e2⟩ := hsame
    rw [State.setFrames_setFrames] at e1
    have h2 : (T.setVm s.vm).sameButNew ({ U with vm := s.vm } : State) [] (0 + 1) (0 + 6) := ⟨e1, e2⟩
    have h3 := X.same.trans h2
    rw [List.append_nil] at h3
    exact h3.mono hc hs
  refine ⟨U, ?_, .threw T.heap.size, hrun, hend, Or.inr ⟨T.heap.size, rfl, cls, ce, locs, hx U hWs.alike f1 (fun q hq => f2 q hq (fun z hz => nomatch hz)), hce, hO.vm, hcl, hWs, hall, hf⟩⟩
  refine st1 _ ?_
  show Steps p.tables e below (T1.setTop { method := m, pc := pc + 3, locals := ls, stack := .ref T.heap.size :: rest, locked := none }) _
  jvm_step X₁.here [X₁.here.top, hexec, d3', Value.category]
  exact X₁.ldcString hexec (own := own) (text := text) (index := is) (a := sa) hown' hstr'.1 hstr'.2
    (g := { method := m, pc := pc + 4, locals := ls, stack := .ref T.heap.size :: .ref T.heap.size :: rest, locked := none }) rfl d4' _ hsteps
/-- 'throw new E("text")', the text by a wide index -/
theorem vx_throwSW {cc : ByteArray} {pc : Nat} (hexec : p.tables.exec = Jvm.exec) (hb : c.code = cc) (hl : l.stackTraces = false) {own cls text : String} {names : List String} {ik is ic mc ms sa : Nat} {A : Nat → Prop}
    (hown : s.vm.findClass own = some m.cls) (hcls : Bundle.fit cls = true) (hnames : ∀ n ∈ names, Bundle.fit n = true)
    (hk : (Cond.classLink own ik cls).before args s = true) (hini : (Cond.initialized cls).before args s = true) (hstr : vk_R own is text sa s) (hat : ∀ w ∈ vx_atS own ic cls names, w.before args s = true)
    (hgood : ∀ w ∈ Cond.classLink own ik cls :: Cond.initialized cls :: vx_atS own ic cls names, vx_ot w = true)
    (hU : vx_Zq Bundle.tN "UNASSIGNED_STACK" Bundle.steD A s s.heap) (hN : vx_Zq Bundle.tN "SUPPRESSED_SENTINEL" Bundle.listD A s s.heap) (hS : va_S A s.heap H locs) (hsize : ls.size = c.maxLocals)
    (d0 : decode cc pc = .ok (.new ik, 3)) (d3 : decode cc (pc + 3) = .ok (.dup, 1)) (d4 : decode cc (pc + 4) = .ok (.ldc_w is, 3)) (d7 : decode cc (pc + 7) = .ok (.invokespecial ic, 3)) (d10 : decode cc (pc + 10) = .ok (.athrow, 1))
    (hout : ∀ x ∈ c.exceptionTable.toList, covers x (pc + 10) = false)
    (hRframes : names.length + 3 < R.frames) (hRlocals : (rest.map fun v => v.category).sum + (13 * (names.length + 1) + 43) ≤ R.locals) (hRcells : cells + 1 ≤ R.cells) (hRslots : slots + 6 ≤ R.slots) (hlocks : meth.locks = false)
    (hx : ∀ t : State, s.vm.Alike t.vm → H.size ≤ t.heap.size → (∀ q : Nat, q < H.size → t.heap[q]? = H[q]?) → XC cls s t)
    (hf : ∀ z ∈ locs, free z.base) (hc : cells + 1 ≤ mc) (hs : slots + 6 ≤ ms) :
    W p l e R s m args below meth c H locs cells slots (vx_MQ below Qc XC args s mc ms free) (F0 m pc ls rest) := by
  intro T hT X
  have htr : e.platform.stackTraces = false := (show e.platform.stackTraces = l.stackTraces by rw [X.admits.platform]).trans hl
  have Y := vx_rebase X (R' := { frames := R.frames, locals := R.locals, cells := 1, slots := 6 }) (Nat.le_refl _) (Nat.le_refl _) hRcells hRslots
  obtain ⟨s', hA⟩ : ∃ z, z = (T.setVm s.vm).setFrames (.invoking m args :: below) := ⟨_, rfl⟩
  rw [← hA] at Y
  have hvm : s'.vm = s.vm := by rw [hA]; rfl
  have hhp : s'.heap = H := by rw [hA]; exact hT
  have hW0 : s.WarmedH s'.vm := by rw [hvm]; exact State.WarmedH.refl s
  have hat' : ∀ w ∈ vx_atS own ic cls names, w.before args s' = true := fun w hw => vx_ot_at hW0 hvm.symm (hgood w (List.mem_cons_of_mem _ (List.mem_cons_of_mem _ hw))) (hat w hw)
  have hk' : (Cond.classLink own ik cls).before args s' = true := vx_ot_at hW0 hvm.symm (hgood _ List.mem_cons_self) hk
  have hini' : (Cond.initialized cls).before args s' = true := vx_ot_at hW0 hvm.symm (hgood _ (List.mem_cons_of_mem _ List.mem_cons_self)) hini
  have hU' : vx_Zq Bundle.tN "UNASSIGNED_STACK" Bundle.steD A s' s'.heap := by rw [hhp]; exact vx_Zq.moved hW0.alike (hU.kept hS.2.1)
  have hN' : vx_Zq Bundle.tN "SUPPRESSED_SENTINEL" Bundle.listD A s' s'.heap := by rw [hhp]; exact vx_Zq.moved hW0.alike (hN.kept hS.2.1)
  have h : ∀ w ∈ Bundle.ownAtoms own ic cls names, w.before args s' = true := vx_own hat' (vx_isRefq hU'.1) (vx_isRefq hN'.1) hU'.2.word hN'.2.word
  have hown' : s'.vm.findClass own = some m.cls := by rw [hvm]; exact hown
  have hins : (Cond.instantiable cls 6).before args s' = true := h _ (by simp [Bundle.ownAtoms])
  obtain ⟨vm₁, cX, kX, hfX, hkX, -, -, X₁, st1⟩ := Y.newCold hexec (own := own) (C := cls) (index := ik) (n := 6) hown' hk' hins hini'
    (g := F0 m pc ls rest) rfl (by rw [hb]; exact d0) (Nat.le_refl _) (Nat.le_refl _)
  generalize hT1 : (T.setVm vm₁).pushCell { cls := cX, slots := kX.instanceTypes.map defaultValue, vm := .none } = T1 at X₁ st1
  have hcat : (Value.ref T.heap.size).category = 1 := rfl
  have hcellA : T1.heap[T.heap.size]? = some (freshCell cX kX) := by rw [← hT1]; exact State.heap_pushCell_size _ _
  have d3' : decode c.code (pc + 3) = .ok (.dup, 1) := by rw [hb]; exact d3
  have d4' : decode c.code (pc + 4) = .ok (.ldc_w is, 3) := by rw [hb]; exact d4
  have hstr' : vk_R own is text sa s' := vk_R.warm hW0 hstr
  obtain ⟨U, hsteps, hrun, hend, hW, hsame, ce, hce, hO⟩ := X₁.ctorThrowS hexec htr (own := own) (cls := cls) (names := names) (ic := ic) hown' hcls hnames h (fun x hx => nomatch hx) hfX hkX hcellA (by rw [hhp, hT]; exact Nat.le_refl _) (msg := .ref sa) rfl
    (g := { method := m, pc := pc + 7, locals := ls, stack := .ref sa :: .ref T.heap.size :: .ref T.heap.size :: rest, locked := none }) rfl hsize rfl rfl (rest := rest) rfl
    (by rw [hb]; exact d7) (by rw [hb]; exact d10) hout hRframes (by simp only [List.map_cons, List.sum_cons, hcat]; omega) hlocks
  obtain ⟨f1, f2⟩ := vx_frame hsame
  rw [hhp] at f1 f2
  have hWs : s.WarmedH U.vm := State.WarmedH.trans hW0 hW
  have hcl : s.vm.findClass cls = some ce.cls := by
    have h9 := hO.cls
    rw [hvm] at h9
    exact h9
  have hall : s.sameButNew ({ U with vm := s.vm } : State) locs mc ms := by
    subst hA
    obtain ⟨e1, e2⟩ := hsame
    rw [State.setFrames_setFrames] at e1
    have h2 : (T.setVm s.vm).sameButNew ({ U with vm := s.vm } : State) [] (0 + 1) (0 + 6) := ⟨e1, e2⟩
    have h3 := X.same.trans h2
    rw [List.append_nil] at h3
    exact h3.mono hc hs
  refine ⟨U, ?_, .threw T.heap.size, hrun, hend, Or.inr ⟨T.heap.size, rfl, cls, ce, locs, hx U hWs.alike f1 (fun q hq => f2 q hq (fun z hz => nomatch hz)), hce, hO.vm, hcl, hWs, hall, hf⟩⟩
  refine st1 _ ?_
  show Steps p.tables e below (T1.setTop { method := m, pc := pc + 3, locals := ls, stack := .ref T.heap.size :: rest, locked := none }) _
  jvm_step X₁.here [X₁.here.top, hexec, d3', Value.category]
  exact X₁.ldcStringW hexec (own := own) (text := text) (index := is) (a := sa) hown' hstr'.1 hstr'.2
    (g := { method := m, pc := pc + 4, locals := ls, stack := .ref T.heap.size :: .ref T.heap.size :: rest, locked := none }) rfl d4' _ hsteps
end Ends
section Bodies
variable {l : Launch}
theorem vx_ofW {y : MethodName} {ws ws' : List Cond} {rm : Room} {Pc : Array Value → State → Prop} {Qc : Array Value → State → Outcome → State → Prop} {XC : String → State → State → Prop} {mc ms : Nat} {free : Addr → Prop} {cc : ByteArray} {maxL : Nat} {ret : Option FieldType}
    (hy : plainName y.cls = true) (hw : ws = Cond.code y cc maxL ret :: ws')
    (body : ∀ p e s m args below meth c s₁, BodyLoose p l y (headSpec ws rm) cc maxL ret e s m args below meth c s₁ → c.maxLocals = maxL → (∀ x ∈ c.exceptionTable.toList, False) → Pc args s →
      W p l e (headSpec ws rm).room s m args below meth c s.heap [] 0 0 (vx_MQ below Qc XC args s mc ms free) (entryFrame m args maxL)) : vx_Met l y ws rm Pc Qc XC mc ms free := by
  refine MetFree.of_bodyS (code := cc) (maxLocals := maxL) (ret := ret) hy ?_ ?_
  · intro args s m h hn
    obtain ⟨meth, c, h1, h2, h3, h4, h5, h6, -, -⟩ := Cond.code_spec hn (atoms_spec (ws := ws) h _ (by rw [hw]; exact List.mem_cons_self))
    exact ⟨meth, c, h1, h2, h3, h4, h5, h6⟩
  · intro p e s m args below meth c s₁ B hml hP _
    have hh0 : s₁.heap = s.heap := by rw [B.state]; rfl
    have ht : ∀ x ∈ c.exceptionTable.toList, False := by
      obtain ⟨meth9, c9, h1, h2, -, -, -, -, h7, -⟩ := Cond.code_spec B.named (atoms_spec (ws := ws) B.pre _ (by rw [hw]; exact List.mem_cons_self))
      cases Option.some.inj (h1.symm.trans B.method)
      cases Option.some.inj (h2.symm.trans (Stand.of_body B).code)
      intro x hx
      rw [Array.isEmpty_iff.mp h7] at hx
      cases hx
    obtain ⟨t, a1, o, b1, b2, b3⟩ := body p e s m args below meth c s₁ B hml ht hP s₁ hh0 (Stand.of_body B)
    exact ⟨t, o, a1, b1, b2, b3⟩
/-- the table of a body with handlers -/
theorem vx_table {p : Program} {x y : MethodName} {S : Spec} {cc bytes : ByteArray} {maxL maxL' : Nat} {ret ret' : Option FieldType} {e : Env} {s s₁ : State} {m : MethodId} {args : Array Value} {below : List Frame} {meth : Method} {c : Code} {hh : List (Nat × Nat × Nat × Nat)}
    (B : BodyLoose p l y S cc maxL ret e s m args below meth c s₁) (h : (Cond.codeWith y bytes maxL' ret' hh).before args s = true) : c.exceptionTable.toList = tableOf hh := by
  obtain ⟨m9, meth9, c9, hn9, h1, h2, -, -, h6, -⟩ := Cond.codeWith_spec h
  cases Option.some.inj (hn9.symm.trans B.named)
  cases Option.some.inj (h1.symm.trans B.method)
  cases Option.some.inj (h2.symm.trans (Stand.of_body B).code)
  rw [← h6, table_eq]
end Bodies
end VXA
/-! ===== END ===== -/
/-! ===== BEGIN a static call of a method with an exception table ===== -/
section VXS
variable {p : Program} {l : Launch} {e : Env} {R : Room} {s : State} {m : MethodId} {args : Array Value} {below : List Frame} {meth : Method} {c : Code} {T : State} {H : Heap} {locs : List Loc} {cells slots : Nat}
abbrev vx_CSW (R : Room) (s : State) (args : Array Value) (own : String) (index : Nat) (y : MethodName) (bytes : ByteArray) (maxL : Nat) (ret : Option FieldType) (hh : List (Nat × Nat × Nat × Nat)) (ws : List Cond) (rm : Room) (mc ms n : Nat) : Prop :=
  (rm.cells = mc ∧ rm.slots = ms ∧ rm.frames + 1 ≤ R.frames ∧ 8 + (maxL + 11) + rm.locals ≤ R.locals ∧ (∀ w ∈ ws, ∀ (a' : Array Value) (U : State), s.WarmedH U.vm → w.before a' U = true) ∧ Cond.codeWith y bytes maxL ret hh ∈ ws) ∧
  (Cond.codeWith y bytes maxL ret hh).before args s = true ∧ (Cond.initialized y.cls).before args s = true ∧ (y.cls ≠ "java/lang/invoke/MethodHandle" ∧ y.cls ≠ "java/lang/invoke/VarHandle") ∧
  (∀ sig, parseMethodDescriptor y.desc = some sig → n = sig.parameters.length) ∧ (Cond.methodLink own index y).before args s = true ∧ (Cond.static y).before args s = true
theorem vx_cwSW {own : String} {index maxL mc ms : Nat} {y : MethodName} {bytes : ByteArray} {ret : Option FieldType} {hh : List (Nat × Nat × Nat × Nat)} {Ts ws ws' : List Cond} {rm : Room} (n : Nat) (ht : ∀ w ∈ Ts, w.before args s = true) (hT : GoodIn Ts (va_wsS own index y ws)) (hw : ws = Cond.codeWith y bytes maxL ret hh :: ws') (hrc : rm.cells = mc) (hrs : rm.slots = ms)
    (hd : y.cls ≠ "java/lang/invoke/MethodHandle" ∧ y.cls ≠ "java/lang/invoke/VarHandle" ∧ (parseMethodDescriptor y.desc).map (fun d => d.parameters.length) = some n) (hR : rm.frames + 1 ≤ R.frames ∧ 8 + (maxL + 11) + rm.locals ≤ R.locals) :
    vx_CSW R s args own index y bytes maxL ret hh ws rm mc ms n := by
  have ok : ∀ w ∈ va_wsS own index y ws, w.before args s = true := fun w h => ht w (hT w h).1
  have hG : GoodIn Ts ws := fun w h => hT w (by unfold va_wsS; exact List.mem_append_right _ h)
  have hc : Cond.codeWith y bytes maxL ret hh ∈ ws := by rw [hw]; exact List.mem_cons_self
  refine ⟨⟨hrc, hrs, hR.1, hR.2, pay_in ht hG, hc⟩, ht _ (hG _ hc).1, ok _ (by simp [va_wsS]), ⟨hd.1, hd.2.1⟩, fun sig h => ?_, ok _ (by simp [va_wsS]), ok _ (by simp [va_wsS])⟩
  have h2 := hd.2.2
  rw [h] at h2
  exact (Option.some.inj h2).symm
theorem vx_callSW (X : Stand p l e R s m args below meth c T locs cells slots) (hexec : p.tables.exec = Jvm.exec) {own : String} {index : Nat} {y : MethodName} {bytes : ByteArray} {maxL : Nat} {ret : Option FieldType} {hh : List (Nat × Nat × Nat × Nat)}
    (hown : s.vm.findClass own = some m.cls) (hlink : (Cond.methodLink own index y).before args s = true) (hstat : (Cond.static y).before args s = true) (hinit : (Cond.initialized y.cls).before args s = true)
    (hcode : (Cond.codeWith y bytes maxL ret hh).before args s = true) (hy : y.cls ≠ "java/lang/invoke/MethodHandle" ∧ y.cls ≠ "java/lang/invoke/VarHandle")
    {W9 : Nat} {Pre : Pt → Array Value → Prop} {Post : Pt → Array Value → Option Value → Pt → Prop} (hK : Back l R p e below s args y 3 W9 Pre Post)
    {g : JFrame} (hg : g.method = m) (hsize : g.locals.size = c.maxLocals) {argsL rest : List Value} (hlen : ∀ sig, parseMethodDescriptor y.desc = some sig → argsL.length = sig.parameters.length)
    (hstack : g.stack = argsL.reverse ++ rest) (hW : 2 * g.monitorRoom + (rest.map fun v => v.category).sum ≤ W9) (hdg : decode c.code g.pc = .ok (.invokestatic index, 3))
    (hpre : ∀ vm₁, s.WarmedH vm₁ → Pre ⟨T.setVm vm₁, locs, cells, slots⟩ argsL.toArray) :
    ∃ (v : Option Value) (vm₁ : Vm) (B : Pt), s.WarmedH vm₁ ∧ Stand p l e R s m args below meth c B.U B.locs B.cells B.slots ∧ Post ⟨T.setVm vm₁, locs, cells, slots⟩ argsL.toArray v B ∧
      ∀ target, Steps p.tables e below (B.U.setTop { g with pc := g.pc + 3, stack := v.toList ++ rest }) target → Steps p.tables e below (T.setTop g) target := by
  obtain ⟨mk, methM, cM, hnamed, hmethM, -, -, -, -, -, -, hsigM⟩ := Cond.codeWith_spec hcode
  have hstatic : methM.isStatic = true := Cond.static_spec hnamed hmethM hstat
  obtain ⟨kP, hkP, -⟩ := className_of_methodNamed hnamed
  have hinitP : kP.init = .initialized := Cond.initialized_spec (findClass_of_methodNamed hnamed) hkP hinit
  obtain ⟨vm₁, X₁, hstep₁⟩ := X.invokestatic hexec hown hlink hnamed hmethM hstatic hkP hinitP hy (g := g) hg (argsL := argsL) (rest := rest) (hlen _ hsigM) hstack hdg
  obtain ⟨v, B, X', hpost, hsteps⟩ := hK m meth c ⟨T.setVm vm₁, locs, cells, slots⟩ { g with stack := rest } (.invokestatic index) mk argsL.toArray X₁ hg hsize hdg hW (X₁.named hnamed) (hpre vm₁ X₁.warmed)
  exact ⟨v, vm₁, B, X₁.warmed, X', hpost, fun target h => hstep₁ _ fun acts => by rw [doInvoke_state]; exact hsteps.trans h⟩
theorem vx_runSW {y : MethodName} {bytes cc : ByteArray} {maxL nL mc ms n index : Nat} {ret : Option FieldType} {hh : List (Nat × Nat × Nat × Nat)} {ws : List Cond} {rm : Room} {Pc : Array Value → State → Prop} {Qc : Array Value → State → Outcome → State → Prop} {free : Addr → Prop} {Ts : List Cond} {own : String} {As rest : List Value} {g : JFrame}
    (S : CallFix p m c cc nL s args Ts own) (hM : Met l y ws rm Pc Qc mc ms free) (cw : vx_CSW R s args own index y bytes maxL ret hh ws rm mc ms n) (hp : PreS s H Pc As)
    (hg : g.method = m) (hn : As.length = n) (hsize : g.locals.size = nL) (hstack : g.stack = As.reverse ++ rest) (hW : 2 * g.monitorRoom + (rest.map fun v => v.category).sum ≤ 8) (hdg : decode cc g.pc = .ok (.invokestatic index, 3)) (hf : cells + mc ≤ R.cells ∧ slots + ms ≤ R.slots) :
    va_Run p l e R s m args below meth c H locs cells slots mc ms g rest (Qc As.toArray) (free) := by
  obtain ⟨⟨hrc, hrs, hfr, hlo, hws, hcw⟩, hcode, hini, hy, hlen, hl, hstt⟩ := cw
  have hK : Back l R p e below s args y 3 8 (PreOf R mc ms Pc) (PostOf Qc mc ms free) := va_backW (hh := hh) (bytes := bytes) (maxL := maxL) (ret := ret) hM hp.1 hrc hrs hfr hlo hws hcw (fun a' U hW => word_at hW (Or.inl (by first | rfl | simp [Cond.onTables, Cond.keeps, Cond.steady])) hini)
  obtain ⟨hx, hb, hml, ho, -⟩ := S
  intro T hT X
  obtain ⟨v, vm₁, ⟨U', l2, c2, s2⟩, hW₁, X', ⟨g', mk, t, L, e1, e2, hq, h1, hL, h2, h3⟩, st⟩ := vx_callSW X hx (hh := hh) (bytes := bytes) (maxL := maxL) (ret := ret) ho hl hstt hini hcode hy hK hg (hsize.trans hml.symm) (argsL := As) (rest := rest) (fun sig h => hn.trans (hlen sig h)) hstack hW (by rw [hb]; exact hdg)
    (fun vm₁ hW₁ => ⟨hf.1, hf.2, hp.2 (T.setVm vm₁) hT hW₁⟩)
  dsimp only [Pt.U, Pt.locs, Pt.cells, Pt.slots] at X' e1 e2 h1 h2 h3 st
  subst h1; subst h2; subst h3
  exact ⟨v, (T.setVm vm₁).calling g' mk As.toArray, t, U', L, hT, X', hL, e1, e2, hq, st⟩
/-- not caught here, past rows that name other classes: it goes on to the caller -/
theorem vx_outP {p : Program} {l : Launch} {e : Env} {R : Room} {s : State} {m : MethodId} {args : Array Value} {below : List Frame} {meth : Method} {c : Code} {H : Heap} {locs : List Loc} {cells slots : Nat} {free : Addr → Prop} {ls : Array Slot} {rest : List Value} {Qc : Array Value → State → Outcome → State → Prop} {XC : String → State → State → Prop}
    {pc : Nat} {own E : String} {ce : Cell} {q : Addr} {mc ms : Nat} (hown : s.vm.findClass own = some m.cls) (hlocks : meth.locks = false)
    (hpass : ∀ z ∈ c.exceptionTable.toList, covers z pc = false ∨ (z.catchType ≠ 0 ∧ ∃ nm : String, (Cond.classLink own z.catchType nm).before args s = true ∧ va_Nc E nm s)) (hcell : H[q]? = some ce) (hv : ce.vm = .none) (hcl : s.vm.findClass E = some ce.cls)
    (hx : ∀ t : State, t.heap = H → s.vm.Alike t.vm → XC E s t) (hf : ∀ z ∈ locs, free z.base) (hc : cells ≤ mc) (hs : slots ≤ ms) :
    vx_W p l e R s m args below meth c H locs cells slots (vx_MQ below Qc XC args s mc ms free) (F0 m pc ls rest) q := by
  intro T hT X
  have hpl : e.platform.magicAccessors = ({} : Platform).magicAccessors := by rw [X.admits.platform]
  obtain ⟨vm', hW', X', st⟩ := X.outThrough hlocks q (g := F0 m pc ls rest) rfl rfl rfl (cell := ce) (by rw [hT]; exact hcell) (by rw [hv]; rfl)
    (by obtain ⟨k9, h9, -⟩ := Vm.findClass_spec hcl; exact ⟨k9, h9⟩) (fun z hz => by
      rcases hpass z hz with h | ⟨hz0, nm, hl1, hn1⟩
      · exact Or.inl h
      · obtain ⟨c6, hc6, hcl6⟩ := Cond.classLink_spec hown hl1 e.platform hpl
        obtain ⟨a8, b8, h1, h2, h3⟩ := hn1
        cases Option.some.inj (h1.symm.trans hcl)
        cases Option.some.inj (h2.symm.trans hc6)
        exact Or.inr ⟨hz0, _, hcl6, h3⟩)
  obtain ⟨g₀, hfr⟩ := X'.frames_eq
  have hcell9 : ((T.setVm vm').setFrames (.throwing q :: below)).heap[q]? = some ce := by
    show T.heap[q]? = some ce
    rw [hT]; exact hcell
  have hend : Ended ((T.setVm vm').setFrames (.throwing q :: below)) below (.threw q) := State.frames_setFrames _ (State.cur_lt_of_frames hfr)
  refine ⟨(T.setVm vm').setFrames (.throwing q :: below), ?_, .threw q, X'.here.running, hend, Or.inr ⟨q, rfl, E, ce, locs, hx _ hT (X'.ends _).1.alike, hcell9, hv, hcl, (X'.ends _).1, (X'.ends _).2.mono hc hs, hf⟩⟩
  rw [X.pushThrowing_eq]
  exact st
/-- a thing of a world lies in the heap -/
theorem vx_lt {D : va_G} {cl : List vw_C} {ws : va_W} {H1 : Heap} (h : va_P D cl ws H1) {k : Nat} {q : Nat × va_E} (hk : ws[k]? = some q) : q.1 < H1.size := (h k q hk).lt
end VXS
/-! ===== END ===== -/
/-! ===== BEGIN methods with a table of their own: called by a name, returning or throwing ===== -/
section VXH
/-! vx_backW, vx_callVX, vx_callSX, vx_callVW, vx_runVW, vx_runVX, vx_runSX, vx_ofWH follow the same proofs as their sisters above (Free/Laws.lean, Shelf42/LK1.lean); vx_outP calls Shelf42/NT130.lean (outThrough). -/
section
variable {l : Launch} {R : Room} {p : Program} {e : Env} {below : List Frame} {s : State} {sargs : Array Value} {y : MethodName} {len W9 : Nat}
theorem vx_backW {ws : List Cond} {rm : Room} {Pc : Array Value → State → Prop} {Qc : Array Value → State → Outcome → State → Prop} {XC : String → State → State → Prop} {mc ms : Nat} {free : Addr → Prop} {bytes : ByteArray} {maxL : Nat} {ret : Option FieldType} {hh : List (Nat × Nat × Nat × Nat)}
    (hM : vx_Met l y ws rm Pc Qc XC mc ms free) (hblind : FrameBlind Pc) (hrc : rm.cells = mc) (hrs : rm.slots = ms)
    (hframes : rm.frames + 1 ≤ R.frames) (hlocals : W9 + (maxL + 11) + rm.locals ≤ R.locals)
    (hws : ∀ w ∈ ws, ∀ a' U, s.WarmedH U.vm → w.before a' U = true) (hcode : Cond.codeWith y bytes maxL ret hh ∈ ws) (hinit : ∀ a' U, s.WarmedH U.vm → (Cond.initialized y.cls).before a' U = true) :
    vx_Back l R p e below s sargs y len W9 (PreOf R mc ms Pc) (PostOf Qc mc ms free) (vx_Post XC mc ms free) := by
  intro m meth c A g ig mk a X hg hsize hdg hW hn hp
  have h1 : (headSpec ws rm).pre.before a A.U = true := atoms_intro fun w hw => hws w hw _ _ X.warmed
  have h2 : (Cond.codeWith y bytes maxL ret hh).before a A.U = true := hws _ hcode _ _ X.warmed
  have h3 : (Cond.initialized y.cls).before a A.U = true := hinit _ _ X.warmed
  have h4 : A.cells + (headSpec ws rm).room.cells ≤ R.cells := by rw [show (headSpec ws rm).room.cells = mc from hrc]; exact hp.1
  have h5 : A.slots + (headSpec ws rm).room.slots ≤ R.slots := by rw [show (headSpec ws rm).room.slots = ms from hrs]; exact hp.2.1
  have hPc : Pc a (A.U.calling g mk a) := hblind _ _ _ _ hp.2.2
  obtain ⟨U, Ls, c0, s0⟩ := A
  dsimp only [Pt.U, Pt.locs, Pt.cells, Pt.slots] at h1 h2 h3 h4 h5 X hn hPc ⊢
  obtain ⟨m9, methY, cY, hn9, hmY, hcY, -, hlY, -⟩ := Cond.codeWith_spec h2
  cases Option.some.inj (hn9.symm.trans hn)
  obtain ⟨kY, hkY, -⟩ := className_of_methodNamed hn
  have hinitY : kY.init = .initialized := Cond.initialized_spec (findClass_of_methodNamed hn) hkY h3
  have h : At U g.method c below := by rw [hg]; exact X.here
  have hlocals9 : W9 + (maxL + 11) + (headSpec ws rm).room.locals ≤ R.locals := hlocals
  have happ : (headSpec ws rm).appliesLoose y e.platform (U.calling g mk a) = true :=
    Spec.appliesLoose_calling (g := g) h hdg hn hkY hinitY
      (X.room_calling (g := g) (R' := (headSpec ws rm).room) hsize hmY hcY hframes (by rw [hlY]; omega) h4 h5) h1
  obtain ⟨mid, hmid⟩ := h.above
  have hfr : (U.setTop g).frames = (.java g :: mid) ++ below := by rw [State.frames_setTop' g h.top, hmid]; rfl
  obtain ⟨o, s₂, hsteps, -, hend, hq⟩ := Steps.callFree hM p X.admits X.cas X.clock (acts := []) hfr happ hPc trivial
  have hq' : vx_Q Qc XC mc ms free a (U.calling g mk a) o s₂ := hq
  rw [State.frames_setTop' g h.top] at hend
  obtain ⟨g₀, hg0⟩ := Option.isSome_iff_exists.mp h.top
  obtain ⟨r, hr⟩ := State.topJava?_eq_some.mp hg0
  have hr' : (({ U with heap := s₂.heap, slotsUsed := s₂.slotsUsed } : State).setVm s₂.vm).frames = .java g₀ :: r := hr
  rcases hq' with ⟨hqc, L, hfe, hL⟩ | ⟨q, rfl, E, ce, L, hx, hce, hcv, hcl, hW₂, hsm, hL⟩
  · obtain ⟨⟨v, rfl⟩, hW₂, e2, q2, q3, q4, q5, q6⟩ := id hfe
    have e3 : s₂ = ({ (U.calling g mk a).setFrames s₂.frames with heap := s₂.heap, slotsUsed := s₂.slotsUsed } : State).setVm s₂.vm := by
      have : s₂ = ({ s₂ with vm := (U.calling g mk a).vm } : State).setVm s₂.vm := rfl
      rw [e2] at this
      exact this
    obtain ⟨c₂, i₂, len₂, hc₂, hd₂, hf₂⟩ := hend
    have hW' : U.WarmedH s₂.vm := hW₂
    have hcc : c₂ = c := by
      have h1 : s₂.code? g.method = U.code? g.method := by
        rw [State.code?_eq, State.code?_eq, hW'.alike.method?]
      exact Option.some.inj (hc₂.symm.trans (h1.trans h.code))
    subst hcc
    have hlen : len₂ = len := by rw [hdg] at hd₂; cases hd₂; rfl
    subst hlen
    have hs₂ : s₂ = (({ U with heap := s₂.heap, slotsUsed := s₂.slotsUsed } : State).setVm s₂.vm).setTop { g with pc := g.pc + len₂, stack := v.toList ++ g.stack } := by
      refine e3.trans ?_
      rw [hf₂, State.calling_eq h.top, State.setFrames_setFrames, State.setTop_of_frames _ hr', hr]
      rfl
    have hsame : U.sameButNew ({ U with heap := s₂.heap, slotsUsed := s₂.slotsUsed } : State) L mc ms := by
      refine ⟨?_, q2, q3, q4, q5, q6⟩
      obtain ⟨t, ht, -⟩ := State.frames_cons hr
      show ({ U with heap := s₂.heap, slotsUsed := s₂.slotsUsed } : State) = { U.setFrames U.frames with heap := s₂.heap, slotsUsed := s₂.slotsUsed }
      rw [State.setFrames_self ht]
    subst hg
    refine Or.inl ⟨v, ⟨(({ U with heap := s₂.heap, slotsUsed := s₂.slotsUsed } : State).setVm s₂.vm), Ls ++ L, c0 + mc, s0 + ms⟩,
      ⟨X.admits, X.cas, X.clock, X.frames, X.room, X.hears, X.method, X.code, (X.here.setHeapUsed s₂.heap s₂.slotsUsed).setVm hW'.alike, X.tail, State.WarmedH.trans X.warmed hW', X.limits, X.bytes, X.same.trans (hsame.setVm s.vm)⟩,
      ⟨g, mk, s₂, L, rfl, rfl, hqc, rfl, hL, rfl, rfl⟩, ?_⟩
    show Steps p.tables e below _ ((({ U with heap := s₂.heap, slotsUsed := s₂.slotsUsed } : State).setVm s₂.vm).setTop { g with pc := g.pc + len₂, stack := v.toList ++ g.stack })
    rw [← hs₂]
    exact hsteps
  · obtain ⟨e2, q2, q3, q4, q5, q6⟩ := id hsm
    have e3 : s₂ = ({ (U.calling g mk a).setFrames s₂.frames with heap := s₂.heap, slotsUsed := s₂.slotsUsed } : State).setVm s₂.vm := by
      have : s₂ = ({ s₂ with vm := (U.calling g mk a).vm } : State).setVm s₂.vm := rfl
      rw [e2] at this
      exact this
    have hf₂ : s₂.frames = .throwing q :: .java g :: U.frames.tail := hend
    have hW' : U.WarmedH s₂.vm := hW₂
    have hs₂ : s₂ = ((({ U with heap := s₂.heap, slotsUsed := s₂.slotsUsed } : State).setVm s₂.vm).setTop g).pushFrame (.throwing q) := by
      refine e3.trans ?_
      rw [hf₂, State.calling_eq h.top, State.setFrames_setFrames, State.pushFrame, State.frames_setTop _ hr', State.setTop_of_frames _ hr', State.setFrames_setFrames, hr]
      rfl
    have hsame : U.sameButNew ({ U with heap := s₂.heap, slotsUsed := s₂.slotsUsed } : State) L mc ms := by
      refine ⟨?_, q2, q3, q4, q5, q6⟩
      obtain ⟨t, ht, -⟩ := State.frames_cons hr
      show ({ U with heap := s₂.heap, slotsUsed := s₂.slotsUsed } : State) = { U.setFrames U.frames with heap := s₂.heap, slotsUsed := s₂.slotsUsed }
      rw [State.setFrames_self ht]
    subst hg
    refine Or.inr ⟨q, ⟨(({ U with heap := s₂.heap, slotsUsed := s₂.slotsUsed } : State).setVm s₂.vm), Ls ++ L, c0 + mc, s0 + ms⟩,
      ⟨X.admits, X.cas, X.clock, X.frames, X.room, X.hears, X.method, X.code, (X.here.setHeapUsed s₂.heap s₂.slotsUsed).setVm hW'.alike, X.tail, State.WarmedH.trans X.warmed hW', X.limits, X.bytes, X.same.trans (hsame.setVm s.vm)⟩,
      ⟨g, mk, s₂, L, E, ce, rfl, rfl, hx, hce, hcv, hcl, rfl, hL, rfl, rfl⟩, ?_⟩
    show Steps p.tables e below _ (((({ U with heap := s₂.heap, slotsUsed := s₂.slotsUsed } : State).setVm s₂.vm).setTop g).pushFrame (.throwing q))
    rw [← hs₂]
    exact hsteps
end
variable {p : Program} {l : Launch} {e : Env} {R : Room} {s : State} {m : MethodId} {args : Array Value} {below : List Frame} {meth : Method} {c : Code} {T : State} {H : Heap} {locs : List Loc} {cells slots : Nat}
theorem vx_callVX (X : Stand p l e R s m args below meth c T locs cells slots) (hexec : p.tables.exec = Jvm.exec) {own C : String} {index : Nat} {y : MethodName} {bytes : ByteArray} {maxL : Nat} {ret : Option FieldType} {hh : List (Nat × Nat × Nat × Nat)}
    (hown : s.vm.findClass own = some m.cls) (hlink : (Cond.methodLink own index y).before args s = true) (hinst : (Cond.instanceMethod y).before args s = true) (hsel : (Cond.selects C y y).before args s = true)
    (hcode : (Cond.codeWith y bytes maxL ret hh).before args s = true) (hy : y.cls ≠ "java/lang/invoke/MethodHandle" ∧ y.cls ≠ "java/lang/invoke/VarHandle")
    {W9 : Nat} {Pre : Pt → Array Value → Prop} {Post : Pt → Array Value → Option Value → Pt → Prop} {PostX : Pt → Array Value → Addr → Pt → Prop} (hK : vx_Back l R p e below s args y 3 W9 Pre Post PostX)
    {b : Addr} {cellB : Cell} (hcell : T.heap[b]? = some cellB) (hobj : cellB.vm.isStatics = false) (hcls : s.vm.findClass C = some cellB.cls)
    {g : JFrame} (hg : g.method = m) (hsize : g.locals.size = c.maxLocals) {argsL rest : List Value} (hlen : ∀ sig, parseMethodDescriptor y.desc = some sig → argsL.length = sig.parameters.length)
    (hstack : g.stack = argsL.reverse ++ .ref b :: rest) (hW : 2 * g.monitorRoom + (rest.map fun v => v.category).sum ≤ W9) (hdg : decode c.code g.pc = .ok (.invokevirtual index, 3))
    (hpre : ∀ vm₁, s.WarmedH vm₁ → Pre ⟨T.setVm vm₁, locs, cells, slots⟩ (Value.ref b :: argsL).toArray) :
    (∃ (v : Option Value) (vm₁ : Vm) (B : Pt), s.WarmedH vm₁ ∧ Stand p l e R s m args below meth c B.U B.locs B.cells B.slots ∧ Post ⟨T.setVm vm₁, locs, cells, slots⟩ (Value.ref b :: argsL).toArray v B ∧
      ∀ target, Steps p.tables e below (B.U.setTop { g with pc := g.pc + 3, stack := v.toList ++ rest }) target → Steps p.tables e below (T.setTop g) target) ∨
    (∃ (q : Addr) (vm₁ : Vm) (B : Pt), s.WarmedH vm₁ ∧ Stand p l e R s m args below meth c B.U B.locs B.cells B.slots ∧ PostX ⟨T.setVm vm₁, locs, cells, slots⟩ (Value.ref b :: argsL).toArray q B ∧
      Steps p.tables e below (T.setTop g) ((B.U.setTop { g with stack := rest }).pushFrame (.throwing q))) := by
  obtain ⟨mk, methM, hnamed, hmethM, hstM, habM⟩ := Cond.instanceMethod_spec hinst
  obtain ⟨m8, methM', cM, hn8, hmethM', -, -, -, -, -, -, hsigM⟩ := Cond.codeWith_spec hcode
  cases Option.some.inj (hn8.symm.trans hnamed)
  cases hmethM.symm.trans hmethM'
  obtain ⟨c2, r2, m2, q1, q2, q3, q4, kP, hkP, hkPi⟩ := Cond.selects_spec hsel
  cases hcls.symm.trans q1
  cases (State.methodFound?_of_named hnamed hy).symm.trans q2
  cases hnamed.symm.trans q3
  have hselP : selectMethod e.platform s.vm cellB.cls mk = .method mk := by rw [Launch.admits_selectMethod X.admits]; exact q4
  obtain ⟨vm₁, X₁, hstep₁⟩ := X.invokevirtual hexec hown hlink hnamed hmethM hstM hkP hkPi hy (a := b) (cell := cellB) hcell
    (fun z h => by rw [h] at hobj; cases hobj) hselP hmethM habM hkP hkPi (g := g) hg (argsL := argsL) (rest := rest) (hlen _ hsigM) hstack hdg
  rcases hK m meth c ⟨T.setVm vm₁, locs, cells, slots⟩ { g with stack := rest } (.invokevirtual index) mk (Value.ref b :: argsL).toArray X₁ hg hsize hdg hW (X₁.named hnamed) (hpre vm₁ X₁.warmed) with ⟨v, B, X', hpost, hsteps⟩ | ⟨q, B, X', hpost, hsteps⟩
  · exact Or.inl ⟨v, vm₁, B, X₁.warmed, X', hpost, fun target h => hstep₁ _ fun acts => by rw [doInvoke_state]; exact hsteps.trans h⟩
  · exact Or.inr ⟨q, vm₁, B, X₁.warmed, X', hpost, hstep₁ _ fun acts => by rw [doInvoke_state]; exact hsteps⟩
theorem vx_callSX (X : Stand p l e R s m args below meth c T locs cells slots) (hexec : p.tables.exec = Jvm.exec) {own : String} {index : Nat} {y : MethodName} {bytes : ByteArray} {maxL : Nat} {ret : Option FieldType} {hh : List (Nat × Nat × Nat × Nat)}
    (hown : s.vm.findClass own = some m.cls) (hlink : (Cond.methodLink own index y).before args s = true) (hstat : (Cond.static y).before args s = true) (hinit : (Cond.initialized y.cls).before args s = true)
    (hcode : (Cond.codeWith y bytes maxL ret hh).before args s = true) (hy : y.cls ≠ "java/lang/invoke/MethodHandle" ∧ y.cls ≠ "java/lang/invoke/VarHandle")
    {W9 : Nat} {Pre : Pt → Array Value → Prop} {Post : Pt → Array Value → Option Value → Pt → Prop} {PostX : Pt → Array Value → Addr → Pt → Prop} (hK : vx_Back l R p e below s args y 3 W9 Pre Post PostX)
    {g : JFrame} (hg : g.method = m) (hsize : g.locals.size = c.maxLocals) {argsL rest : List Value} (hlen : ∀ sig, parseMethodDescriptor y.desc = some sig → argsL.length = sig.parameters.length)
    (hstack : g.stack = argsL.reverse ++ rest) (hW : 2 * g.monitorRoom + (rest.map fun v => v.category).sum ≤ W9) (hdg : decode c.code g.pc = .ok (.invokestatic index, 3))
    (hpre : ∀ vm₁, s.WarmedH vm₁ → Pre ⟨T.setVm vm₁, locs, cells, slots⟩ argsL.toArray) :
    (∃ (v : Option Value) (vm₁ : Vm) (B : Pt), s.WarmedH vm₁ ∧ Stand p l e R s m args below meth c B.U B.locs B.cells B.slots ∧ Post ⟨T.setVm vm₁, locs, cells, slots⟩ argsL.toArray v B ∧
      ∀ target, Steps p.tables e below (B.U.setTop { g with pc := g.pc + 3, stack := v.toList ++ rest }) target → Steps p.tables e below (T.setTop g) target) ∨
    (∃ (q : Addr) (vm₁ : Vm) (B : Pt), s.WarmedH vm₁ ∧ Stand p l e R s m args below meth c B.U B.locs B.cells B.slots ∧ PostX ⟨T.setVm vm₁, locs, cells, slots⟩ argsL.toArray q B ∧
      Steps p.tables e below (T.setTop g) ((B.U.setTop { g with stack := rest }).pushFrame (.throwing q))) := by
  obtain ⟨mk, methM, cM, hnamed, hmethM, -, -, -, -, -, -, hsigM⟩ := Cond.codeWith_spec hcode
  have hstatic : methM.isStatic = true := Cond.static_spec hnamed hmethM hstat
  obtain ⟨kP, hkP, -⟩ := className_of_methodNamed hnamed
  have hinitP : kP.init = .initialized := Cond.initialized_spec (findClass_of_methodNamed hnamed) hkP hinit
  obtain ⟨vm₁, X₁, hstep₁⟩ := X.invokestatic hexec hown hlink hnamed hmethM hstatic hkP hinitP hy (g := g) hg (argsL := argsL) (rest := rest) (hlen _ hsigM) hstack hdg
  rcases hK m meth c ⟨T.setVm vm₁, locs, cells, slots⟩ { g with stack := rest } (.invokestatic index) mk argsL.toArray X₁ hg hsize hdg hW (X₁.named hnamed) (hpre vm₁ X₁.warmed) with ⟨v, B, X', hpost, hsteps⟩ | ⟨q, B, X', hpost, hsteps⟩
  · exact Or.inl ⟨v, vm₁, B, X₁.warmed, X', hpost, fun target h => hstep₁ _ fun acts => by rw [doInvoke_state]; exact hsteps.trans h⟩
  · exact Or.inr ⟨q, vm₁, B, X₁.warmed, X', hpost, hstep₁ _ fun acts => by rw [doInvoke_state]; exact hsteps⟩
theorem vx_callVW (X : Stand p l e R s m args below meth c T locs cells slots) (hexec : p.tables.exec = Jvm.exec) {own C : String} {index : Nat} {y : MethodName} {bytes : ByteArray} {maxL : Nat} {ret : Option FieldType} {hh : List (Nat × Nat × Nat × Nat)}
    (hown : s.vm.findClass own = some m.cls) (hlink : (Cond.methodLink own index y).before args s = true) (hinst : (Cond.instanceMethod y).before args s = true) (hsel : (Cond.selects C y y).before args s = true)
    (hcode : (Cond.codeWith y bytes maxL ret hh).before args s = true) (hy : y.cls ≠ "java/lang/invoke/MethodHandle" ∧ y.cls ≠ "java/lang/invoke/VarHandle")
    {W9 : Nat} {Pre : Pt → Array Value → Prop} {Post : Pt → Array Value → Option Value → Pt → Prop} (hK : Back l R p e below s args y 3 W9 Pre Post)
    {b : Addr} {cellB : Cell} (hcell : T.heap[b]? = some cellB) (hobj : cellB.vm.isStatics = false) (hcls : s.vm.findClass C = some cellB.cls)
    {g : JFrame} (hg : g.method = m) (hsize : g.locals.size = c.maxLocals) {argsL rest : List Value} (hlen : ∀ sig, parseMethodDescriptor y.desc = some sig → argsL.length = sig.parameters.length)
    (hstack : g.stack = argsL.reverse ++ .ref b :: rest) (hW : 2 * g.monitorRoom + (rest.map fun v => v.category).sum ≤ W9) (hdg : decode c.code g.pc = .ok (.invokevirtual index, 3))
    (hpre : ∀ vm₁, s.WarmedH vm₁ → Pre ⟨T.setVm vm₁, locs, cells, slots⟩ (Value.ref b :: argsL).toArray) :
    ∃ (v : Option Value) (vm₁ : Vm) (B : Pt), s.WarmedH vm₁ ∧ Stand p l e R s m args below meth c B.U B.locs B.cells B.slots ∧ Post ⟨T.setVm vm₁, locs, cells, slots⟩ (Value.ref b :: argsL).toArray v B ∧
      ∀ target, Steps p.tables e below (B.U.setTop { g with pc := g.pc + 3, stack := v.toList ++ rest }) target → Steps p.tables e below (T.setTop g) target := by
  obtain ⟨mk, methM, hnamed, hmethM, hstM, habM⟩ := Cond.instanceMethod_spec hinst
  obtain ⟨m8, methM', cM, hn8, hmethM', -, -, -, -, -, -, hsigM⟩ := Cond.codeWith_spec hcode
  cases Option.some.inj (hn8.symm.trans hnamed)
  cases hmethM.symm.trans hmethM'
  obtain ⟨c2, r2, m2, q1, q2, q3, q4, kP, hkP, hkPi⟩ := Cond.selects_spec hsel
  cases hcls.symm.trans q1
  cases (State.methodFound?_of_named hnamed hy).symm.trans q2
  cases hnamed.symm.trans q3
  have hselP : selectMethod e.platform s.vm cellB.cls mk = .method mk := by rw [Launch.admits_selectMethod X.admits]; exact q4
  obtain ⟨vm₁, X₁, hstep₁⟩ := X.invokevirtual hexec hown hlink hnamed hmethM hstM hkP hkPi hy (a := b) (cell := cellB) hcell
    (fun z h => by rw [h] at hobj; cases hobj) hselP hmethM habM hkP hkPi (g := g) hg (argsL := argsL) (rest := rest) (hlen _ hsigM) hstack hdg
  obtain ⟨v, B, X', hpost, hsteps⟩ := hK m meth c ⟨T.setVm vm₁, locs, cells, slots⟩ { g with stack := rest } (.invokevirtual index) mk (Value.ref b :: argsL).toArray X₁ hg hsize hdg hW (X₁.named hnamed) (hpre vm₁ X₁.warmed)
  exact ⟨v, vm₁, B, X₁.warmed, X', hpost, fun target h => hstep₁ _ fun acts => by rw [doInvoke_state]; exact hsteps.trans h⟩
abbrev vx_CVW (R : Room) (s : State) (args : Array Value) (own C : String) (index : Nat) (y : MethodName) (bytes : ByteArray) (maxL : Nat) (ret : Option FieldType) (hh : List (Nat × Nat × Nat × Nat)) (ws : List Cond) (rm : Room) (mc ms n : Nat) : Prop :=
  (rm.cells = mc ∧ rm.slots = ms ∧ rm.frames + 1 ≤ R.frames ∧ 8 + (maxL + 11) + rm.locals ≤ R.locals ∧ (∀ w ∈ ws, ∀ (a' : Array Value) (U : State), s.WarmedH U.vm → w.before a' U = true) ∧ Cond.codeWith y bytes maxL ret hh ∈ ws) ∧
  (Cond.codeWith y bytes maxL ret hh).before args s = true ∧ (Cond.initialized y.cls).before args s = true ∧ (y.cls ≠ "java/lang/invoke/MethodHandle" ∧ y.cls ≠ "java/lang/invoke/VarHandle") ∧
  (∀ sig, parseMethodDescriptor y.desc = some sig → n = sig.parameters.length) ∧ (Cond.methodLink own index y).before args s = true ∧ (Cond.instanceMethod y).before args s = true ∧ (Cond.selects C y y).before args s = true
theorem vx_cwVW {own C : String} {index maxL mc ms : Nat} {y : MethodName} {bytes : ByteArray} {ret : Option FieldType} {hh : List (Nat × Nat × Nat × Nat)} {Ts ws ws' : List Cond} {rm : Room} (n : Nat) (ht : ∀ w ∈ Ts, w.before args s = true) (hT : GoodIn Ts (wsV own index C y ws)) (hw : ws = Cond.codeWith y bytes maxL ret hh :: ws') (hrc : rm.cells = mc) (hrs : rm.slots = ms)
    (hd : y.cls = C ∧ y.cls ≠ "java/lang/invoke/MethodHandle" ∧ y.cls ≠ "java/lang/invoke/VarHandle" ∧ (parseMethodDescriptor y.desc).map (fun d => d.parameters.length) = some n) (hR : rm.frames + 1 ≤ R.frames ∧ 8 + (maxL + 11) + rm.locals ≤ R.locals) :
    vx_CVW R s args own C index y bytes maxL ret hh ws rm mc ms n := by
  obtain ⟨hC, hd⟩ := hd
  subst hC
  have ok : ∀ w ∈ wsV own index y.cls y ws, w.before args s = true := fun w h => ht w (hT w h).1
  have hG : GoodIn Ts ws := fun w h => hT w (by unfold wsV; exact List.mem_append_right _ h)
  have hc : Cond.codeWith y bytes maxL ret hh ∈ ws := by rw [hw]; exact List.mem_cons_self
  refine ⟨⟨hrc, hrs, hR.1, hR.2, pay_in ht hG, hc⟩, ht _ (hG _ hc).1, ok _ (by simp [wsV]), ⟨hd.1, hd.2.1⟩, fun sig h => ?_, ok _ (by simp [wsV]), ok _ (by simp [wsV]), ok _ (by simp [wsV])⟩
  have h2 := hd.2.2
  rw [h] at h2
  exact (Option.some.inj h2).symm
theorem vx_runVW {y : MethodName} {bytes cc : ByteArray} {maxL nL mc ms n index : Nat} {ret : Option FieldType} {hh : List (Nat × Nat × Nat × Nat)} {ws : List Cond} {rm : Room} {Pc : Array Value → State → Prop} {Qc : Array Value → State → Outcome → State → Prop} {free : Addr → Prop} {Ts : List Cond} {own C : String} {b : Addr} {As rest : List Value} {g : JFrame}
    (S : CallFix p m c cc nL s args Ts own) (hM : Met l y ws rm Pc Qc mc ms free) (cw : vx_CVW R s args own C index y bytes maxL ret hh ws rm mc ms n) (hp : PreV s H C b Pc As)
    (hg : g.method = m) (hn : As.length = n) (hsize : g.locals.size = nL) (hstack : g.stack = As.reverse ++ .ref b :: rest) (hW : 2 * g.monitorRoom + (rest.map fun v => v.category).sum ≤ 8) (hdg : decode cc g.pc = .ok (.invokevirtual index, 3)) (hf : cells + mc ≤ R.cells ∧ slots + ms ≤ R.slots) :
    va_Run p l e R s m args below meth c H locs cells slots mc ms g rest (Qc (Value.ref b :: As).toArray) free := by
  obtain ⟨⟨hrc, hrs, hfr, hlo, hws, hcw⟩, hcode, hini, hy, hlen, hl, hin, hse⟩ := cw
  have hK : Back l R p e below s args y 3 8 (PreOf R mc ms Pc) (PostOf Qc mc ms free) := va_backW (hh := hh) (bytes := bytes) (maxL := maxL) (ret := ret) hM hp.1 hrc hrs hfr hlo hws hcw (fun a' U hW => word_at hW (Or.inl (by first | rfl | simp [Cond.onTables, Cond.keeps, Cond.steady])) hini)
  obtain ⟨hx, hb, hml, ho, -⟩ := S
  obtain ⟨-, ⟨cellB, hcB, hoB, hclB⟩, hPc⟩ := hp
  intro T hT X
  obtain ⟨v, vm₁, ⟨U', l2, c2, s2⟩, hW₁, X', ⟨g', mk, t, L, e1, e2, hq, h1, hL, h2, h3⟩, st⟩ := vx_callVW X hx (C := C) (hh := hh) (bytes := bytes) (maxL := maxL) (ret := ret) ho hl hin hse hcode hy hK (by rw [hT]; exact hcB) hoB hclB hg (hsize.trans hml.symm) (argsL := As) (rest := rest) (fun sig h => hn.trans (hlen sig h)) hstack hW (by rw [hb]; exact hdg)
    (fun vm₁ hW₁ => ⟨hf.1, hf.2, hPc (T.setVm vm₁) hT hW₁⟩)
  dsimp only [Pt.U, Pt.locs, Pt.cells, Pt.slots] at X' e1 e2 h1 h2 h3 st
  subst h1; subst h2; subst h3
  exact ⟨v, (T.setVm vm₁).calling g' mk (Value.ref b :: As).toArray, t, U', L, hT, X', hL, e1, e2, hq, st⟩
section
variable {y : MethodName} {bytes cc : ByteArray} {maxL nL mc ms n index : Nat} {ret : Option FieldType} {ws : List Cond} {rm : Room} {Pc : Array Value → State → Prop} {Qc : Array Value → State → Outcome → State → Prop} {XC : String → State → State → Prop} {free : Addr → Prop} {Ts : List Cond} {own C : String} {b : Addr} {As rest : List Value} {g : JFrame}
theorem vx_runVX {hh : List (Nat × Nat × Nat × Nat)} (S : CallFix p m c cc nL s args Ts own) (hM : vx_Met l y ws rm Pc Qc XC mc ms free) (cw : vx_CVW R s args own C index y bytes maxL ret hh ws rm mc ms n) (hp : PreV s H C b Pc As)
    (hg : g.method = m) (hn : As.length = n) (hsize : g.locals.size = nL) (hstack : g.stack = As.reverse ++ .ref b :: rest) (hW : 2 * g.monitorRoom + (rest.map fun v => v.category).sum ≤ 8) (hdg : decode cc g.pc = .ok (.invokevirtual index, 3)) (hf : cells + mc ≤ R.cells ∧ slots + ms ≤ R.slots) :
    vx_Run p l e R s m args below meth c H locs cells slots mc ms g rest (Qc (Value.ref b :: As).toArray) XC free := by
  obtain ⟨⟨hrc, hrs, hfr, hlo, hws, hcw⟩, hcode, hini, hy, hlen, hl, hin, hse⟩ := cw
  have hK : vx_Back l R p e below s args y 3 8 (PreOf R mc ms Pc) (PostOf Qc mc ms free) (vx_Post XC mc ms free) := vx_backW (hh := hh) (bytes := bytes) (maxL := maxL) (ret := ret) hM hp.1 hrc hrs hfr hlo hws hcw (fun a' U hW => word_at hW (Or.inl (by first | rfl | simp [Cond.onTables, Cond.keeps, Cond.steady])) hini)
  obtain ⟨hx, hb, hml, ho, -⟩ := S
  obtain ⟨-, ⟨cellB, hcB, hoB, hclB⟩, hPc⟩ := hp
  intro T hT X
  rcases vx_callVX X hx (C := C) (hh := hh) (bytes := bytes) (maxL := maxL) (ret := ret) ho hl hin hse hcode hy hK (by rw [hT]; exact hcB) hoB hclB hg (hsize.trans hml.symm) (argsL := As) (rest := rest) (fun sig h => hn.trans (hlen sig h)) hstack hW (by rw [hb]; exact hdg)
    (fun vm₁ hW₁ => ⟨hf.1, hf.2, hPc (T.setVm vm₁) hT hW₁⟩) with ⟨v, vm₁, ⟨U', l2, c2, s2⟩, hW₁, X', ⟨g', mk, t, L, e1, e2, hq, h1, hL, h2, h3⟩, st⟩ | ⟨q, vm₁, ⟨U', l2, c2, s2⟩, hW₁, X', ⟨g', mk, t, L, E, ce, e1, e2, hq, hce, hcv, hcl, h1, hL, h2, h3⟩, st⟩
  · dsimp only [Pt.U, Pt.locs, Pt.cells, Pt.slots] at X' e1 e2 h1 h2 h3 st
    subst h1; subst h2; subst h3
    exact Or.inl ⟨v, (T.setVm vm₁).calling g' mk (Value.ref b :: As).toArray, t, U', L, hT, X', hL, e1, e2, hq, st⟩
  · dsimp only [Pt.U, Pt.locs, Pt.cells, Pt.slots] at X' e1 e2 h1 h2 h3 st hcl
    subst h1; subst h2; subst h3
    exact Or.inr ⟨q, (T.setVm vm₁).calling g' mk (Value.ref b :: As).toArray, t, U', L, E, ce, hT, X', hL, e1, e2, hq, hce, hcv, vx_cls hW₁ hcl, st⟩
theorem vx_runSX {hh : List (Nat × Nat × Nat × Nat)} (S : CallFix p m c cc nL s args Ts own) (hM : vx_Met l y ws rm Pc Qc XC mc ms free) (cw : vx_CSW R s args own index y bytes maxL ret hh ws rm mc ms n) (hp : PreS s H Pc As)
    (hg : g.method = m) (hn : As.length = n) (hsize : g.locals.size = nL) (hstack : g.stack = As.reverse ++ rest) (hW : 2 * g.monitorRoom + (rest.map fun v => v.category).sum ≤ 8) (hdg : decode cc g.pc = .ok (.invokestatic index, 3)) (hf : cells + mc ≤ R.cells ∧ slots + ms ≤ R.slots) :
    vx_Run p l e R s m args below meth c H locs cells slots mc ms g rest (Qc As.toArray) XC free := by
  obtain ⟨⟨hrc, hrs, hfr, hlo, hws, hcw⟩, hcode, hini, hy, hlen, hl, hstt⟩ := cw
  have hK : vx_Back l R p e below s args y 3 8 (PreOf R mc ms Pc) (PostOf Qc mc ms free) (vx_Post XC mc ms free) := vx_backW (hh := hh) (bytes := bytes) (maxL := maxL) (ret := ret) hM hp.1 hrc hrs hfr hlo hws hcw (fun a' U hW => word_at hW (Or.inl (by first | rfl | simp [Cond.onTables, Cond.keeps, Cond.steady])) hini)
  obtain ⟨hx, hb, hml, ho, -⟩ := S
  intro T hT X
  rcases vx_callSX X hx (hh := hh) (bytes := bytes) (maxL := maxL) (ret := ret) ho hl hstt hini hcode hy hK hg (hsize.trans hml.symm) (argsL := As) (rest := rest) (fun sig h => hn.trans (hlen sig h)) hstack hW (by rw [hb]; exact hdg)
    (fun vm₁ hW₁ => ⟨hf.1, hf.2, hp.2 (T.setVm vm₁) hT hW₁⟩) with ⟨v, vm₁, ⟨U', l2, c2, s2⟩, hW₁, X', ⟨g', mk, t, L, e1, e2, hq, h1, hL, h2, h3⟩, st⟩ | ⟨q, vm₁, ⟨U', l2, c2, s2⟩, hW₁, X', ⟨g', mk, t, L, E, ce, e1, e2, hq, hce, hcv, hcl, h1, hL, h2, h3⟩, st⟩
  · dsimp only [Pt.U, Pt.locs, Pt.cells, Pt.slots] at X' e1 e2 h1 h2 h3 st
    subst h1; subst h2; subst h3
    exact Or.inl ⟨v, (T.setVm vm₁).calling g' mk As.toArray, t, U', L, hT, X', hL, e1, e2, hq, st⟩
  · dsimp only [Pt.U, Pt.locs, Pt.cells, Pt.slots] at X' e1 e2 h1 h2 h3 st hcl
    subst h1; subst h2; subst h3
    exact Or.inr ⟨q, (T.setVm vm₁).calling g' mk As.toArray, t, U', L, E, ce, hT, X', hL, e1, e2, hq, hce, hcv, vx_cls hW₁ hcl, st⟩
end
end VXH
theorem vx_ofWH {l : Launch} {y : MethodName} {ws ws' : List Cond} {rm : Room} {Pc : Array Value → State → Prop} {Qc : Array Value → State → Outcome → State → Prop} {XC : String → State → State → Prop} {mc ms : Nat} {free : Addr → Prop} {cc : ByteArray} {maxL : Nat} {ret : Option FieldType} {hh : List (Nat × Nat × Nat × Nat)}
    (hy : plainName y.cls = true) (hw : ws = Cond.codeWith y cc maxL ret hh :: ws')
    (body : ∀ p e s m args below meth c s₁, BodyLoose p l y (headSpec ws rm) cc maxL ret e s m args below meth c s₁ → c.maxLocals = maxL → Pc args s →
      W p l e (headSpec ws rm).room s m args below meth c s.heap [] 0 0 (vx_MQ below Qc XC args s mc ms free) (entryFrame m args maxL)) : vx_Met l y ws rm Pc Qc XC mc ms free := by
  refine MetFree.of_bodyS (code := cc) (maxLocals := maxL) (ret := ret) hy ?_ ?_
  · intro args s m h hn
    obtain ⟨m9, meth, c, hn9, h1, h2, h3, h4, -, h5, h6, -⟩ := Cond.codeWith_spec (atoms_spec (ws := ws) h _ (by rw [hw]; exact List.mem_cons_self))
    cases hn.symm.trans hn9
    exact ⟨meth, c, h1, h2, h3, h4, h5, h6⟩
  · intro p e s m args below meth c s₁ B hml hP _
    have hh0 : s₁.heap = s.heap := by rw [B.state]; rfl
    obtain ⟨t, a1, o, b1, b2, b3⟩ := body p e s m args below meth c s₁ B hml hP s₁ hh0 (Stand.of_body B)
    exact ⟨t, o, a1, b1, b2, b3⟩
/-! ===== END ===== -/
end
section
def RX0 : String := "Conformary$Act"
def TX0 : u_T := fun k => match k with
  | 0 => ("Conformary$Act", "scope", "I", true)
  | 1 => ("Conformary$Act", "without", "I", true)
  | 2 => ("Conformary$Act", "demanded", "I", true)
  | 3 => ("Conformary$Act", "from", "I", true)
  | _ => ("Conformary$Act", "moreSpecial", "I", false)
def tyX0 : Nat → FieldType := fun k => match k with
  | 0 => .int
  | 1 => .int
  | 2 => .int
  | 3 => .int
  | _ => .int
abbrev wsX00 : List Cond := u_ws RX0 TX0 5
theorem nmX0 : ∀ a, a < 5 → ∀ b, b < 5 → a ≠ b → (TX0 a).2.1 ≠ (TX0 b).2.1 := by decide +kernel
theorem tyX0_ok : ∀ k, k < 5 → parseFieldDescriptor (TX0 k).2.2.1 = some (tyX0 k) := by decide +kernel
abbrev cX0_init : ByteArray := prog_2_method_1_code
def yX0_init : MethodName := ⟨RX0, "<init>", "(IIII)V"⟩
abbrev cX0_isForByItself : ByteArray := prog_2_method_2_code
def yX0_isForByItself : MethodName := ⟨RX0, "isForByItself", "(II)Z"⟩
def RX1 : String := "Conformary$Batch"
def TX1 : u_T := fun k => match k with
  | 0 => ("Conformary$Batch", "product", "I", true)
  | 1 => ("Conformary$Batch", "units", "I", true)
  | 2 => ("Conformary$Batch", "cameOn", "I", true)
  | 3 => ("Conformary$Batch", "version", "I", true)
  | 4 => ("Conformary$Batch", "lackThen", "I", true)
  | 5 => ("Conformary$Batch", "standing", "I", false)
  | 6 => ("Conformary$Batch", "latestSample", "I", false)
  | 7 => ("Conformary$Batch", "highestSeverity", "I", false)
  | _ => ("Conformary$Batch", "harmed", "I", false)
def tyX1 : Nat → FieldType := fun k => match k with
  | 0 => .int
  | 1 => .int
  | 2 => .int
  | 3 => .int
  | 4 => .int
  | 5 => .int
  | 6 => .int
  | 7 => .int
  | _ => .int
abbrev wsX10 : List Cond := u_ws RX1 TX1 9
theorem nmX1 : ∀ a, a < 9 → ∀ b, b < 9 → a ≠ b → (TX1 a).2.1 ≠ (TX1 b).2.1 := by decide +kernel
theorem tyX1_ok : ∀ k, k < 9 → parseFieldDescriptor (TX1 k).2.2.1 = some (tyX1 k) := by decide +kernel
abbrev cX1_init : ByteArray := prog_3_method_1_code
def yX1_init : MethodName := ⟨RX1, "<init>", "(IIIII)V"⟩
abbrev cX1_isOnMarketOf : ByteArray := prog_3_method_2_code
def yX1_isOnMarketOf : MethodName := ⟨RX1, "isOnMarketOf", "(I)Z"⟩
abbrev cX1_alarmLevel : ByteArray := prog_3_method_3_code
def yX1_alarmLevel : MethodName := ⟨RX1, "alarmLevel", "()I"⟩
abbrev cX1_alarmByHarm : ByteArray := prog_3_method_4_code
def yX1_alarmByHarm : MethodName := ⟨RX1, "alarmByHarm", "()I"⟩
def RX2 : String := "Conformary$Body"
def TX2 : u_T := fun k => match k with
  | 0 => ("Conformary$Body", "number", "I", true)
  | 1 => ("Conformary$Body", "scope", "I", true)
  | _ => ("Conformary$Body", "suspendedOn", "I", false)
def tyX2 : Nat → FieldType := fun k => match k with
  | 0 => .int
  | 1 => .int
  | _ => .int
abbrev wsX20 : List Cond := u_ws RX2 TX2 3
theorem nmX2 : ∀ a, a < 3 → ∀ b, b < 3 → a ≠ b → (TX2 a).2.1 ≠ (TX2 b).2.1 := by decide +kernel
theorem tyX2_ok : ∀ k, k < 3 → parseFieldDescriptor (TX2 k).2.2.1 = some (tyX2 k) := by decide +kernel
abbrev cX2_init : ByteArray := prog_4_method_1_code
def yX2_init : MethodName := ⟨RX2, "<init>", "(II)V"⟩
abbrev cX2_isSuspended : ByteArray := prog_4_method_2_code
def yX2_isSuspended : MethodName := ⟨RX2, "isSuspended", "()Z"⟩
abbrev cX2_hasInScope : ByteArray := prog_4_method_3_code
def yX2_hasInScope : MethodName := ⟨RX2, "hasInScope", "(I)Z"⟩
abbrev cX2_isCertificateUpheld : ByteArray := prog_4_method_4_code
def yX2_isCertificateUpheld : MethodName := ⟨RX2, "isCertificateUpheld", "(I)Z"⟩
def RX3 : String := "Conformary$Product"
def TX3 : u_T := fun k => match k with
  | 0 => ("Conformary$Product", "riskBefore", "[I", true)
  | 1 => ("Conformary$Product", "riskAfter", "[I", true)
  | 2 => ("Conformary$Product", "followed", "[I", true)
  | 3 => ("Conformary$Product", "functions", "I", false)
  | 4 => ("Conformary$Product", "version", "I", false)
  | 5 => ("Conformary$Product", "proved", "I", false)
  | 6 => ("Conformary$Product", "declaredOn", "I", false)
  | 7 => ("Conformary$Product", "certifier", "LConformary$Body;", false)
  | 8 => ("Conformary$Product", "certifiedUntil", "I", false)
  | 9 => ("Conformary$Product", "visitedOn", "I", false)
  | _ => ("Conformary$Product", "statesForBan", "I", false)
def tyX3 : Nat → FieldType := fun k => match k with
  | 0 => .array .int
  | 1 => .array .int
  | 2 => .array .int
  | 3 => .int
  | 4 => .int
  | 5 => .int
  | 6 => .int
  | 7 => .object "Conformary$Body"
  | 8 => .int
  | 9 => .int
  | _ => .int
abbrev wsX30 : List Cond := u_ws RX3 TX3 11
theorem nmX3 : ∀ a, a < 11 → ∀ b, b < 11 → a ≠ b → (TX3 a).2.1 ≠ (TX3 b).2.1 := by decide +kernel
theorem tyX3_ok : ∀ k, k < 11 → parseFieldDescriptor (TX3 k).2.2.1 = some (tyX3 k) := by decide +kernel
abbrev cX3_init : ByteArray := prog_5_method_1_code
def yX3_init : MethodName := ⟨RX3, "<init>", "(I)V"⟩
abbrev cX3_startNextVersion : ByteArray := prog_5_method_2_code
def yX3_startNextVersion : MethodName := ⟨RX3, "startNextVersion", "()V"⟩
abbrev cX3_endCertificate : ByteArray := prog_5_method_3_code
def yX3_endCertificate : MethodName := ⟨RX3, "endCertificate", "()V"⟩
abbrev cX3_isVisitCounted : ByteArray := prog_5_method_4_code
def yX3_isVisitCounted : MethodName := ⟨RX3, "isVisitCounted", "(I)Z"⟩
abbrev cX3_hazardsBeforeAbove : ByteArray := prog_5_method_5_code
def yX3_hazardsBeforeAbove : MethodName := ⟨RX3, "hazardsBeforeAbove", "(I)I"⟩
abbrev cX3_hazardsAfterAbove : ByteArray := prog_5_method_6_code
def yX3_hazardsAfterAbove : MethodName := ⟨RX3, "hazardsAfterAbove", "(I)I"⟩
abbrev cX3_hazardsAbove : ByteArray := prog_5_method_7_code
def yX3_hazardsAbove : MethodName := ⟨RX3, "hazardsAbove", "(I[I)I"⟩
def RX4 : String := "Conformary$Standard"
def TX4 : u_T := fun k => match k with
  | 0 => ("Conformary$Standard", "from", "I", true)
  | 1 => ("Conformary$Standard", "hazards", "I", false)
  | _ => ("Conformary$Standard", "until", "I", false)
def tyX4 : Nat → FieldType := fun k => match k with
  | 0 => .int
  | 1 => .int
  | _ => .int
abbrev wsX40 : List Cond := u_ws RX4 TX4 3
theorem nmX4 : ∀ a, a < 3 → ∀ b, b < 3 → a ≠ b → (TX4 a).2.1 ≠ (TX4 b).2.1 := by decide +kernel
theorem tyX4_ok : ∀ k, k < 3 → parseFieldDescriptor (TX4 k).2.2.1 = some (tyX4 k) := by decide +kernel
abbrev cX4_init : ByteArray := prog_6_method_1_code
def yX4_init : MethodName := ⟨RX4, "<init>", "(II)V"⟩
abbrev cX4_isListedOn : ByteArray := prog_6_method_2_code
def yX4_isListedOn : MethodName := ⟨RX4, "isListedOn", "(I)Z"⟩
def RX5 : String := "Conformary"
def TX5 : u_T := fun k => match k with
  | 0 => ("Conformary", "acts", "[LConformary$Act;", true)
  | 1 => ("Conformary", "standards", "[LConformary$Standard;", true)
  | 2 => ("Conformary", "products", "[LConformary$Product;", true)
  | 3 => ("Conformary", "bodies", "[LConformary$Body;", true)
  | 4 => ("Conformary", "batches", "[LConformary$Batch;", true)
  | 5 => ("Conformary", "actCount", "I", false)
  | 6 => ("Conformary", "standardCount", "I", false)
  | 7 => ("Conformary", "productCount", "I", false)
  | 8 => ("Conformary", "bodyCount", "I", false)
  | 9 => ("Conformary", "batchCount", "I", false)
  | _ => ("Conformary", "today", "I", false)
def tyX5 : Nat → FieldType := fun k => match k with
  | 0 => .array (.object "Conformary$Act")
  | 1 => .array (.object "Conformary$Standard")
  | 2 => .array (.object "Conformary$Product")
  | 3 => .array (.object "Conformary$Body")
  | 4 => .array (.object "Conformary$Batch")
  | 5 => .int
  | 6 => .int
  | 7 => .int
  | 8 => .int
  | 9 => .int
  | _ => .int
abbrev wsX50 : List Cond := u_ws RX5 TX5 11
theorem nmX5 : ∀ a, a < 11 → ∀ b, b < 11 → a ≠ b → (TX5 a).2.1 ≠ (TX5 b).2.1 := by decide +kernel
theorem tyX5_ok : ∀ k, k < 11 → parseFieldDescriptor (TX5 k).2.2.1 = some (tyX5 k) := by decide +kernel
abbrev cX5_init : ByteArray := prog_1_method_1_code
def yX5_init : MethodName := ⟨RX5, "<init>", "()V"⟩
abbrev cX5_act : ByteArray := prog_1_method_2_code
def yX5_act : MethodName := ⟨RX5, "act", "(IIII)I"⟩
abbrev cX5_special : ByteArray := prog_1_method_3_code
def yX5_special : MethodName := ⟨RX5, "special", "(II)Z"⟩
abbrev cX5_standard : ByteArray := prog_1_method_4_code
def yX5_standard : MethodName := ⟨RX5, "standard", "(II)I"⟩
abbrev cX5_withdraw : ByteArray := prog_1_method_5_code
def yX5_withdraw : MethodName := ⟨RX5, "withdraw", "(II)I"⟩
abbrev cX5_restrict : ByteArray := prog_1_method_6_code
def yX5_restrict : MethodName := ⟨RX5, "restrict", "(II)I"⟩
abbrev cX5_product : ByteArray := prog_1_method_7_code
def yX5_product : MethodName := ⟨RX5, "product", "(I)I"⟩
abbrev cX5_change : ByteArray := prog_1_method_8_code
def yX5_change : MethodName := ⟨RX5, "change", "(II)I"⟩
abbrev cX5_risk : ByteArray := prog_1_method_9_code
def yX5_risk : MethodName := ⟨RX5, "risk", "(IIII)I"⟩
abbrev cX5_follow : ByteArray := prog_1_method_10_code
def yX5_follow : MethodName := ⟨RX5, "follow", "(III)I"⟩
abbrev cX5_prove : ByteArray := prog_1_method_11_code
def yX5_prove : MethodName := ⟨RX5, "prove", "(II)I"⟩
abbrev cX5_declare : ByteArray := prog_1_method_12_code
def yX5_declare : MethodName := ⟨RX5, "declare", "(I)I"⟩
abbrev cX5_body : ByteArray := prog_1_method_13_code
def yX5_body : MethodName := ⟨RX5, "body", "(I)I"⟩
abbrev cX5_suspend : ByteArray := prog_1_method_14_code
def yX5_suspend : MethodName := ⟨RX5, "suspend", "(IZ)Z"⟩
abbrev cX5_certify : ByteArray := prog_1_method_15_code
def yX5_certify : MethodName := ⟨RX5, "certify", "(III)I"⟩
abbrev cX5_transfer : ByteArray := prog_1_method_16_code
def yX5_transfer : MethodName := ⟨RX5, "transfer", "(II)I"⟩
abbrev cX5_visit : ByteArray := prog_1_method_17_code
def yX5_visit : MethodName := ⟨RX5, "visit", "(IZ)Z"⟩
abbrev cX5_place : ByteArray := prog_1_method_18_code
def yX5_place : MethodName := ⟨RX5, "place", "(II)I"⟩
abbrev cX5_post : ByteArray := prog_1_method_19_code
def yX5_post : MethodName := ⟨RX5, "post", "(II)I"⟩
abbrev cX5_sample : ByteArray := prog_1_method_20_code
def yX5_sample : MethodName := ⟨RX5, "sample", "(IIII)I"⟩
abbrev cX5_event : ByteArray := prog_1_method_21_code
def yX5_event : MethodName := ⟨RX5, "event", "(III)I"⟩
abbrev cX5_recall : ByteArray := prog_1_method_22_code
def yX5_recall : MethodName := ⟨RX5, "recall", "(III)I"⟩
abbrev cX5_ban : ByteArray := prog_1_method_23_code
def yX5_ban : MethodName := ⟨RX5, "ban", "(IIZ)I"⟩
abbrev cX5_pass : ByteArray := prog_1_method_24_code
def yX5_pass : MethodName := ⟨RX5, "pass", "(I)I"⟩
abbrev cX5_day : ByteArray := prog_1_method_25_code
def yX5_day : MethodName := ⟨RX5, "day", "()I"⟩
abbrev cX5_applies : ByteArray := prog_1_method_26_code
def yX5_applies : MethodName := ⟨RX5, "applies", "(II)Z"⟩
abbrev cX5_demands : ByteArray := prog_1_method_27_code
def yX5_demands : MethodName := ⟨RX5, "demands", "(IZ)I"⟩
abbrev cX5_way : ByteArray := prog_1_method_28_code
def yX5_way : MethodName := ⟨RX5, "way", "(I)I"⟩
abbrev cX5_wanting : ByteArray := prog_1_method_29_code
def yX5_wanting : MethodName := ⟨RX5, "wanting", "(I)I"⟩
abbrev cX5_productOf : ByteArray := prog_1_method_30_code
def yX5_productOf : MethodName := ⟨RX5, "productOf", "(II)I"⟩
abbrev cX5_riskOf : ByteArray := prog_1_method_31_code
def yX5_riskOf : MethodName := ⟨RX5, "riskOf", "(IIZ)I"⟩
abbrev cX5_batchOf : ByteArray := prog_1_method_32_code
def yX5_batchOf : MethodName := ⟨RX5, "batchOf", "(II)I"⟩
abbrev cX5_wantingAnew : ByteArray := prog_1_method_33_code
def yX5_wantingAnew : MethodName := ⟨RX5, "wantingAnew", "(I)I"⟩
abbrev cX5_actAt : ByteArray := prog_1_method_34_code
def yX5_actAt : MethodName := ⟨RX5, "actAt", "(I)LConformary$Act;"⟩
abbrev cX5_standardAt : ByteArray := prog_1_method_35_code
def yX5_standardAt : MethodName := ⟨RX5, "standardAt", "(I)LConformary$Standard;"⟩
abbrev cX5_productAt : ByteArray := prog_1_method_36_code
def yX5_productAt : MethodName := ⟨RX5, "productAt", "(I)LConformary$Product;"⟩
abbrev cX5_bodyAt : ByteArray := prog_1_method_37_code
def yX5_bodyAt : MethodName := ⟨RX5, "bodyAt", "(I)LConformary$Body;"⟩
abbrev cX5_batchAt : ByteArray := prog_1_method_38_code
def yX5_batchAt : MethodName := ⟨RX5, "batchAt", "(I)LConformary$Batch;"⟩
abbrev cX5_checkHazard : ByteArray := prog_1_method_39_code
def yX5_checkHazard : MethodName := ⟨RX5, "checkHazard", "(I)V"⟩
abbrev cX5_checkRange : ByteArray := prog_1_method_40_code
def yX5_checkRange : MethodName := ⟨RX5, "checkRange", "(III)V"⟩
abbrev cX5_checkMayCertify : ByteArray := prog_1_method_41_code
def yX5_checkMayCertify : MethodName := ⟨RX5, "checkMayCertify", "(LConformary$Body;LConformary$Product;)V"⟩
abbrev cX5_hasBit : ByteArray := prog_1_method_42_code
def yX5_hasBit : MethodName := ⟨RX5, "hasBit", "(II)Z"⟩
abbrev cX5_actsMoreSpecialThan : ByteArray := prog_1_method_43_code
def yX5_actsMoreSpecialThan : MethodName := ⟨RX5, "actsMoreSpecialThan", "(LConformary$Act;)I"⟩
abbrev cX5_actsForByThemselves : ByteArray := prog_1_method_44_code
def yX5_actsForByThemselves : MethodName := ⟨RX5, "actsForByThemselves", "(LConformary$Product;)I"⟩
abbrev cX5_actsApplyingTo : ByteArray := prog_1_method_45_code
def yX5_actsApplyingTo : MethodName := ⟨RX5, "actsApplyingTo", "(LConformary$Product;)I"⟩
abbrev cX5_hazardsDemanded : ByteArray := prog_1_method_46_code
def yX5_hazardsDemanded : MethodName := ⟨RX5, "hazardsDemanded", "(LConformary$Product;)I"⟩
abbrev cX5_hazardsKept : ByteArray := prog_1_method_47_code
def yX5_hazardsKept : MethodName := ⟨RX5, "hazardsKept", "(LConformary$Product;I)I"⟩
abbrev cX5_wayOf : ByteArray := prog_1_method_48_code
def yX5_wayOf : MethodName := ⟨RX5, "wayOf", "(LConformary$Product;I)I"⟩
abbrev cX5_firstLack : ByteArray := prog_1_method_49_code
def yX5_firstLack : MethodName := ⟨RX5, "firstLack", "(LConformary$Product;)I"⟩
abbrev cX5_holdsCertificate : ByteArray := prog_1_method_50_code
def yX5_holdsCertificate : MethodName := ⟨RX5, "holdsCertificate", "(LConformary$Product;)Z"⟩
abbrev cX5_addBatch : ByteArray := prog_1_method_51_code
def yX5_addBatch : MethodName := ⟨RX5, "addBatch", "(ILConformary$Product;I)I"⟩
abbrev cX5_unitsOnMarket : ByteArray := prog_1_method_52_code
def yX5_unitsOnMarket : MethodName := ⟨RX5, "unitsOnMarket", "(I)I"⟩
def RX6 : String := "ConformaryModel"
def TX6 : u_T := fun k => match k with
  | 0 => ("ConformaryModel", "thrown", "I", false)
  | 1 => ("ConformaryModel", "day", "I", false)
  | 2 => ("ConformaryModel", "acts", "I", false)
  | 3 => ("ConformaryModel", "scope", "[I", true)
  | 4 => ("ConformaryModel", "without", "[I", true)
  | 5 => ("ConformaryModel", "asks", "[I", true)
  | 6 => ("ConformaryModel", "inForce", "[I", true)
  | 7 => ("ConformaryModel", "isSpecial", "[Z", true)
  | 8 => ("ConformaryModel", "isReached", "[Z", true)
  | 9 => ("ConformaryModel", "standards", "I", false)
  | 10 => ("ConformaryModel", "covers", "[I", true)
  | 11 => ("ConformaryModel", "listedFrom", "[I", true)
  | 12 => ("ConformaryModel", "listedTo", "[I", true)
  | 13 => ("ConformaryModel", "products", "I", false)
  | 14 => ("ConformaryModel", "functions", "[I", true)
  | 15 => ("ConformaryModel", "version", "[I", true)
  | 16 => ("ConformaryModel", "before", "[I", true)
  | 17 => ("ConformaryModel", "after", "[I", true)
  | 18 => ("ConformaryModel", "follows", "[I", true)
  | 19 => ("ConformaryModel", "proofs", "[I", true)
  | 20 => ("ConformaryModel", "bodyOf", "[I", true)
  | 21 => ("ConformaryModel", "lastDay", "[I", true)
  | 22 => ("ConformaryModel", "visited", "[I", true)
  | 23 => ("ConformaryModel", "declared", "[I", true)
  | 24 => ("ConformaryModel", "bans", "[I", true)
  | 25 => ("ConformaryModel", "bodies", "I", false)
  | 26 => ("ConformaryModel", "allowed", "[I", true)
  | 27 => ("ConformaryModel", "since", "[I", true)
  | 28 => ("ConformaryModel", "batches", "I", false)
  | 29 => ("ConformaryModel", "productOf", "[I", true)
  | 30 => ("ConformaryModel", "units", "[I", true)
  | 31 => ("ConformaryModel", "came", "[I", true)
  | 32 => ("ConformaryModel", "versionOf", "[I", true)
  | 33 => ("ConformaryModel", "lacked", "[I", true)
  | 34 => ("ConformaryModel", "state", "[I", true)
  | 35 => ("ConformaryModel", "sampled", "[I", true)
  | 36 => ("ConformaryModel", "worst", "[I", true)
  | _ => ("ConformaryModel", "harmed", "[I", true)
def tyX6 : Nat → FieldType := fun k => match k with
  | 0 => .int
  | 1 => .int
  | 2 => .int
  | 3 => .array .int
  | 4 => .array .int
  | 5 => .array .int
  | 6 => .array .int
  | 7 => .array .boolean
  | 8 => .array .boolean
  | 9 => .int
  | 10 => .array .int
  | 11 => .array .int
  | 12 => .array .int
  | 13 => .int
  | 14 => .array .int
  | 15 => .array .int
  | 16 => .array .int
  | 17 => .array .int
  | 18 => .array .int
  | 19 => .array .int
  | 20 => .array .int
  | 21 => .array .int
  | 22 => .array .int
  | 23 => .array .int
  | 24 => .array .int
  | 25 => .int
  | 26 => .array .int
  | 27 => .array .int
  | 28 => .int
  | 29 => .array .int
  | 30 => .array .int
  | 31 => .array .int
  | 32 => .array .int
  | 33 => .array .int
  | 34 => .array .int
  | 35 => .array .int
  | 36 => .array .int
  | _ => .array .int
abbrev wsX60 : List Cond := u_ws RX6 TX6 38
theorem nmX6 : ∀ a, a < 38 → ∀ b, b < 38 → a ≠ b → (TX6 a).2.1 ≠ (TX6 b).2.1 := by decide +kernel
theorem tyX6_ok : ∀ k, k < 38 → parseFieldDescriptor (TX6 k).2.2.1 = some (tyX6 k) := by decide +kernel
abbrev cX6_init : ByteArray := prog_8_method_1_code
def yX6_init : MethodName := ⟨RX6, "<init>", "()V"⟩
abbrev cX6_thrown : ByteArray := prog_8_method_2_code
def yX6_thrown : MethodName := ⟨RX6, "thrown", "()I"⟩
abbrev cX6_in : ByteArray := prog_8_method_3_code
def yX6_in : MethodName := ⟨RX6, "in", "(III)Z"⟩
abbrev cX6_refused : ByteArray := prog_8_method_4_code
def yX6_refused : MethodName := ⟨RX6, "refused", "(I)Z"⟩
abbrev cX6_isAct : ByteArray := prog_8_method_5_code
def yX6_isAct : MethodName := ⟨RX6, "isAct", "(I)Z"⟩
abbrev cX6_isStandard : ByteArray := prog_8_method_6_code
def yX6_isStandard : MethodName := ⟨RX6, "isStandard", "(I)Z"⟩
abbrev cX6_isProduct : ByteArray := prog_8_method_7_code
def yX6_isProduct : MethodName := ⟨RX6, "isProduct", "(I)Z"⟩
abbrev cX6_isBody : ByteArray := prog_8_method_8_code
def yX6_isBody : MethodName := ⟨RX6, "isBody", "(I)Z"⟩
abbrev cX6_isBatch : ByteArray := prog_8_method_9_code
def yX6_isBatch : MethodName := ⟨RX6, "isBatch", "(I)Z"⟩
abbrev cX6_bits : ByteArray := prog_8_method_10_code
def yX6_bits : MethodName := ⟨RX6, "bits", "(I)I"⟩
abbrev cX6_act : ByteArray := prog_8_method_11_code
def yX6_act : MethodName := ⟨RX6, "act", "(IIII)I"⟩
abbrev cX6_isAbove : ByteArray := prog_8_method_12_code
def yX6_isAbove : MethodName := ⟨RX6, "isAbove", "(II)Z"⟩
abbrev cX6_special : ByteArray := prog_8_method_13_code
def yX6_special : MethodName := ⟨RX6, "special", "(II)Z"⟩
abbrev cX6_standard : ByteArray := prog_8_method_14_code
def yX6_standard : MethodName := ⟨RX6, "standard", "(II)I"⟩
abbrev cX6_withdraw : ByteArray := prog_8_method_15_code
def yX6_withdraw : MethodName := ⟨RX6, "withdraw", "(II)I"⟩
abbrev cX6_restrict : ByteArray := prog_8_method_16_code
def yX6_restrict : MethodName := ⟨RX6, "restrict", "(II)I"⟩
abbrev cX6_product : ByteArray := prog_8_method_17_code
def yX6_product : MethodName := ⟨RX6, "product", "(I)I"⟩
abbrev cX6_nextVersion : ByteArray := prog_8_method_18_code
def yX6_nextVersion : MethodName := ⟨RX6, "nextVersion", "(I)V"⟩
abbrev cX6_change : ByteArray := prog_8_method_19_code
def yX6_change : MethodName := ⟨RX6, "change", "(II)I"⟩
abbrev cX6_risk : ByteArray := prog_8_method_20_code
def yX6_risk : MethodName := ⟨RX6, "risk", "(IIII)I"⟩
abbrev cX6_follow : ByteArray := prog_8_method_21_code
def yX6_follow : MethodName := ⟨RX6, "follow", "(III)I"⟩
abbrev cX6_prove : ByteArray := prog_8_method_22_code
def yX6_prove : MethodName := ⟨RX6, "prove", "(II)I"⟩
abbrev cX6_isFor : ByteArray := prog_8_method_23_code
def yX6_isFor : MethodName := ⟨RX6, "isFor", "(II)Z"⟩
abbrev cX6_doesApply : ByteArray := prog_8_method_24_code
def yX6_doesApply : MethodName := ⟨RX6, "doesApply", "(II)Z"⟩
abbrev cX6_applying : ByteArray := prog_8_method_25_code
def yX6_applying : MethodName := ⟨RX6, "applying", "(I)I"⟩
abbrev cX6_demandsOf : ByteArray := prog_8_method_26_code
def yX6_demandsOf : MethodName := ⟨RX6, "demandsOf", "(I)I"⟩
abbrev cX6_shown : ByteArray := prog_8_method_27_code
def yX6_shown : MethodName := ⟨RX6, "shown", "(I)I"⟩
abbrev cX6_lowOf : ByteArray := prog_8_method_28_code
def yX6_lowOf : MethodName := ⟨RX6, "lowOf", "(I)I"⟩
abbrev cX6_keptOf : ByteArray := prog_8_method_29_code
def yX6_keptOf : MethodName := ⟨RX6, "keptOf", "(I)I"⟩
abbrev cX6_wayOf : ByteArray := prog_8_method_30_code
def yX6_wayOf : MethodName := ⟨RX6, "wayOf", "(I)I"⟩
abbrev cX6_hasScope : ByteArray := prog_8_method_31_code
def yX6_hasScope : MethodName := ⟨RX6, "hasScope", "(II)Z"⟩
abbrev cX6_holds : ByteArray := prog_8_method_32_code
def yX6_holds : MethodName := ⟨RX6, "holds", "(I)Z"⟩
abbrev cX6_wantingOf : ByteArray := prog_8_method_33_code
def yX6_wantingOf : MethodName := ⟨RX6, "wantingOf", "(I)I"⟩
abbrev cX6_declare : ByteArray := prog_8_method_34_code
def yX6_declare : MethodName := ⟨RX6, "declare", "(I)I"⟩
abbrev cX6_body : ByteArray := prog_8_method_35_code
def yX6_body : MethodName := ⟨RX6, "body", "(I)I"⟩
abbrev cX6_suspend : ByteArray := prog_8_method_36_code
def yX6_suspend : MethodName := ⟨RX6, "suspend", "(IZ)Z"⟩
abbrev cX6_certify : ByteArray := prog_8_method_37_code
def yX6_certify : MethodName := ⟨RX6, "certify", "(III)I"⟩
abbrev cX6_transfer : ByteArray := prog_8_method_38_code
def yX6_transfer : MethodName := ⟨RX6, "transfer", "(II)I"⟩
abbrev cX6_visit : ByteArray := prog_8_method_39_code
def yX6_visit : MethodName := ⟨RX6, "visit", "(IZ)Z"⟩
abbrev cX6_arrives : ByteArray := prog_8_method_40_code
def yX6_arrives : MethodName := ⟨RX6, "arrives", "(III)I"⟩
abbrev cX6_place : ByteArray := prog_8_method_41_code
def yX6_place : MethodName := ⟨RX6, "place", "(II)I"⟩
abbrev cX6_post : ByteArray := prog_8_method_42_code
def yX6_post : MethodName := ⟨RX6, "post", "(II)I"⟩
abbrev cX6_sample : ByteArray := prog_8_method_43_code
def yX6_sample : MethodName := ⟨RX6, "sample", "(IIII)I"⟩
abbrev cX6_levelOf : ByteArray := prog_8_method_44_code
def yX6_levelOf : MethodName := ⟨RX6, "levelOf", "(I)I"⟩
abbrev cX6_event : ByteArray := prog_8_method_45_code
def yX6_event : MethodName := ⟨RX6, "event", "(III)I"⟩
abbrev cX6_recall : ByteArray := prog_8_method_46_code
def yX6_recall : MethodName := ⟨RX6, "recall", "(III)I"⟩
abbrev cX6_ban : ByteArray := prog_8_method_47_code
def yX6_ban : MethodName := ⟨RX6, "ban", "(IIZ)I"⟩
abbrev cX6_pass : ByteArray := prog_8_method_48_code
def yX6_pass : MethodName := ⟨RX6, "pass", "(I)I"⟩
abbrev cX6_day : ByteArray := prog_8_method_49_code
def yX6_day : MethodName := ⟨RX6, "day", "()I"⟩
abbrev cX6_applies : ByteArray := prog_8_method_50_code
def yX6_applies : MethodName := ⟨RX6, "applies", "(II)Z"⟩
abbrev cX6_demands : ByteArray := prog_8_method_51_code
def yX6_demands : MethodName := ⟨RX6, "demands", "(IZ)I"⟩
abbrev cX6_way : ByteArray := prog_8_method_52_code
def yX6_way : MethodName := ⟨RX6, "way", "(I)I"⟩
abbrev cX6_wanting : ByteArray := prog_8_method_53_code
def yX6_wanting : MethodName := ⟨RX6, "wanting", "(I)I"⟩
abbrev cX6_onMarket : ByteArray := prog_8_method_54_code
def yX6_onMarket : MethodName := ⟨RX6, "onMarket", "(I)I"⟩
abbrev cX6_productOf : ByteArray := prog_8_method_55_code
def yX6_productOf : MethodName := ⟨RX6, "productOf", "(II)I"⟩
abbrev cX6_riskOf : ByteArray := prog_8_method_56_code
def yX6_riskOf : MethodName := ⟨RX6, "riskOf", "(IIZ)I"⟩
abbrev cX6_batchOf : ByteArray := prog_8_method_57_code
def yX6_batchOf : MethodName := ⟨RX6, "batchOf", "(II)I"⟩
abbrev cX6_wantingAnew : ByteArray := prog_8_method_58_code
def yX6_wantingAnew : MethodName := ⟨RX6, "wantingAnew", "(I)I"⟩
def RL : String := "ConformaryLaw"
abbrev cL_act : ByteArray := method_3_code
def yL_act : MethodName := ⟨RL, "act", "(LConformary;IIII[J)I"⟩
abbrev cL_special : ByteArray := method_4_code
def yL_special : MethodName := ⟨RL, "special", "(LConformary;II[J)I"⟩
abbrev cL_standard : ByteArray := method_5_code
def yL_standard : MethodName := ⟨RL, "standard", "(LConformary;II[J)I"⟩
abbrev cL_withdraw : ByteArray := method_6_code
def yL_withdraw : MethodName := ⟨RL, "withdraw", "(LConformary;II[J)I"⟩
abbrev cL_restrict : ByteArray := method_7_code
def yL_restrict : MethodName := ⟨RL, "restrict", "(LConformary;II[J)I"⟩
abbrev cL_product : ByteArray := method_8_code
def yL_product : MethodName := ⟨RL, "product", "(LConformary;I[J)I"⟩
abbrev cL_change : ByteArray := method_9_code
def yL_change : MethodName := ⟨RL, "change", "(LConformary;II[J)I"⟩
abbrev cL_risk : ByteArray := method_10_code
def yL_risk : MethodName := ⟨RL, "risk", "(LConformary;IIII[J)I"⟩
abbrev cL_follow : ByteArray := method_11_code
def yL_follow : MethodName := ⟨RL, "follow", "(LConformary;III[J)I"⟩
abbrev cL_prove : ByteArray := method_12_code
def yL_prove : MethodName := ⟨RL, "prove", "(LConformary;II[J)I"⟩
abbrev cL_declare : ByteArray := method_13_code
def yL_declare : MethodName := ⟨RL, "declare", "(LConformary;I[J)I"⟩
abbrev cL_body : ByteArray := method_14_code
def yL_body : MethodName := ⟨RL, "body", "(LConformary;I[J)I"⟩
abbrev cL_suspend : ByteArray := method_15_code
def yL_suspend : MethodName := ⟨RL, "suspend", "(LConformary;IZ[J)I"⟩
abbrev cL_certify : ByteArray := method_16_code
def yL_certify : MethodName := ⟨RL, "certify", "(LConformary;III[J)I"⟩
abbrev cL_transfer : ByteArray := method_17_code
def yL_transfer : MethodName := ⟨RL, "transfer", "(LConformary;II[J)I"⟩
abbrev cL_visit : ByteArray := method_18_code
def yL_visit : MethodName := ⟨RL, "visit", "(LConformary;IZ[J)I"⟩
abbrev cL_place : ByteArray := method_19_code
def yL_place : MethodName := ⟨RL, "place", "(LConformary;II[J)I"⟩
abbrev cL_post : ByteArray := method_20_code
def yL_post : MethodName := ⟨RL, "post", "(LConformary;II[J)I"⟩
abbrev cL_sample : ByteArray := method_21_code
def yL_sample : MethodName := ⟨RL, "sample", "(LConformary;IIII[J)I"⟩
abbrev cL_event : ByteArray := method_22_code
def yL_event : MethodName := ⟨RL, "event", "(LConformary;III[J)I"⟩
abbrev cL_recall : ByteArray := method_23_code
def yL_recall : MethodName := ⟨RL, "recall", "(LConformary;III[J)I"⟩
abbrev cL_ban : ByteArray := method_24_code
def yL_ban : MethodName := ⟨RL, "ban", "(LConformary;IIZ[J)I"⟩
abbrev cL_pass : ByteArray := method_25_code
def yL_pass : MethodName := ⟨RL, "pass", "(LConformary;I[J)I"⟩
abbrev cL_applies : ByteArray := method_26_code
def yL_applies : MethodName := ⟨RL, "applies", "(LConformary;II[J)I"⟩
abbrev cL_demands : ByteArray := method_27_code
def yL_demands : MethodName := ⟨RL, "demands", "(LConformary;IZ[J)I"⟩
abbrev cL_way : ByteArray := method_28_code
def yL_way : MethodName := ⟨RL, "way", "(LConformary;I[J)I"⟩
abbrev cL_wanting : ByteArray := method_29_code
def yL_wanting : MethodName := ⟨RL, "wanting", "(LConformary;I[J)I"⟩
abbrev cL_productOf : ByteArray := method_30_code
def yL_productOf : MethodName := ⟨RL, "productOf", "(LConformary;II[J)I"⟩
abbrev cL_riskOf : ByteArray := method_31_code
def yL_riskOf : MethodName := ⟨RL, "riskOf", "(LConformary;IIZ[J)I"⟩
abbrev cL_batchOf : ByteArray := method_32_code
def yL_batchOf : MethodName := ⟨RL, "batchOf", "(LConformary;II[J)I"⟩
abbrev cL_wantingAnew : ByteArray := method_33_code
def yL_wantingAnew : MethodName := ⟨RL, "wantingAnew", "(LConformary;I[J)I"⟩
abbrev cL_law : ByteArray := code
def yL_law : MethodName := ⟨RL, "law", "([I)Z"⟩
theorem dX0_init_0 : decode cX0_init 0 = .ok (.aload_n 0, 1) := by decide +kernel
theorem dX0_init_1 : decode cX0_init 1 = .ok (.invokespecial 1, 3) := by decide +kernel
theorem dX0_init_4 : decode cX0_init 4 = .ok (.aload_n 0, 1) := by decide +kernel
theorem dX0_init_5 : decode cX0_init 5 = .ok (.iload_n 1, 1) := by decide +kernel
theorem dX0_init_6 : decode cX0_init 6 = .ok (.putfield 7, 3) := by decide +kernel
theorem dX0_init_9 : decode cX0_init 9 = .ok (.aload_n 0, 1) := by decide +kernel
theorem dX0_init_10 : decode cX0_init 10 = .ok (.iload_n 2, 1) := by decide +kernel
theorem dX0_init_11 : decode cX0_init 11 = .ok (.putfield 13, 3) := by decide +kernel
theorem dX0_init_14 : decode cX0_init 14 = .ok (.aload_n 0, 1) := by decide +kernel
theorem dX0_init_15 : decode cX0_init 15 = .ok (.iload_n 3, 1) := by decide +kernel
theorem dX0_init_16 : decode cX0_init 16 = .ok (.putfield 16, 3) := by decide +kernel
theorem dX0_init_19 : decode cX0_init 19 = .ok (.aload_n 0, 1) := by decide +kernel
theorem dX0_init_20 : decode cX0_init 20 = .ok (.iload 4, 2) := by decide +kernel
theorem dX0_init_22 : decode cX0_init 22 = .ok (.putfield 19, 3) := by decide +kernel
theorem dX0_init_25 : decode cX0_init 25 = .ok (.return_, 1) := by decide +kernel
theorem dX0_isForByItself_0 : decode cX0_isForByItself 0 = .ok (.iload_n 2, 1) := by decide +kernel
theorem dX0_isForByItself_1 : decode cX0_isForByItself 1 = .ok (.aload_n 0, 1) := by decide +kernel
theorem dX0_isForByItself_2 : decode cX0_isForByItself 2 = .ok (.getfield 19, 3) := by decide +kernel
theorem dX0_isForByItself_5 : decode cX0_isForByItself 5 = .ok (.if_icmp .lt 25, 3) := by decide +kernel
theorem dX0_isForByItself_8 : decode cX0_isForByItself 8 = .ok (.aload_n 0, 1) := by decide +kernel
theorem dX0_isForByItself_9 : decode cX0_isForByItself 9 = .ok (.getfield 7, 3) := by decide +kernel
theorem dX0_isForByItself_12 : decode cX0_isForByItself 12 = .ok (.iload_n 1, 1) := by decide +kernel
theorem dX0_isForByItself_13 : decode cX0_isForByItself 13 = .ok (.iand, 1) := by decide +kernel
theorem dX0_isForByItself_14 : decode cX0_isForByItself 14 = .ok (.ifCond .eq 16, 3) := by decide +kernel
theorem dX0_isForByItself_17 : decode cX0_isForByItself 17 = .ok (.aload_n 0, 1) := by decide +kernel
theorem dX0_isForByItself_18 : decode cX0_isForByItself 18 = .ok (.getfield 13, 3) := by decide +kernel
theorem dX0_isForByItself_21 : decode cX0_isForByItself 21 = .ok (.iload_n 1, 1) := by decide +kernel
theorem dX0_isForByItself_22 : decode cX0_isForByItself 22 = .ok (.iand, 1) := by decide +kernel
theorem dX0_isForByItself_23 : decode cX0_isForByItself 23 = .ok (.ifCond .ne 7, 3) := by decide +kernel
theorem dX0_isForByItself_26 : decode cX0_isForByItself 26 = .ok (.iconst 1, 1) := by decide +kernel
theorem dX0_isForByItself_27 : decode cX0_isForByItself 27 = .ok (.goto 4, 3) := by decide +kernel
theorem dX0_isForByItself_30 : decode cX0_isForByItself 30 = .ok (.iconst 0, 1) := by decide +kernel
theorem dX0_isForByItself_31 : decode cX0_isForByItself 31 = .ok (.ireturn, 1) := by decide +kernel
theorem dX1_init_0 : decode cX1_init 0 = .ok (.aload_n 0, 1) := by decide +kernel
theorem dX1_init_1 : decode cX1_init 1 = .ok (.invokespecial 3, 3) := by decide +kernel
theorem dX1_init_4 : decode cX1_init 4 = .ok (.aload_n 0, 1) := by decide +kernel
theorem dX1_init_5 : decode cX1_init 5 = .ok (.iload_n 1, 1) := by decide +kernel
theorem dX1_init_6 : decode cX1_init 6 = .ok (.putfield 9, 3) := by decide +kernel
theorem dX1_init_9 : decode cX1_init 9 = .ok (.aload_n 0, 1) := by decide +kernel
theorem dX1_init_10 : decode cX1_init 10 = .ok (.iload_n 2, 1) := by decide +kernel
theorem dX1_init_11 : decode cX1_init 11 = .ok (.putfield 15, 3) := by decide +kernel
theorem dX1_init_14 : decode cX1_init 14 = .ok (.aload_n 0, 1) := by decide +kernel
theorem dX1_init_15 : decode cX1_init 15 = .ok (.iload_n 3, 1) := by decide +kernel
theorem dX1_init_16 : decode cX1_init 16 = .ok (.putfield 18, 3) := by decide +kernel
theorem dX1_init_19 : decode cX1_init 19 = .ok (.aload_n 0, 1) := by decide +kernel
theorem dX1_init_20 : decode cX1_init 20 = .ok (.iload 4, 2) := by decide +kernel
theorem dX1_init_22 : decode cX1_init 22 = .ok (.putfield 21, 3) := by decide +kernel
theorem dX1_init_25 : decode cX1_init 25 = .ok (.aload_n 0, 1) := by decide +kernel
theorem dX1_init_26 : decode cX1_init 26 = .ok (.iload 5, 2) := by decide +kernel
theorem dX1_init_28 : decode cX1_init 28 = .ok (.putfield 24, 3) := by decide +kernel
theorem dX1_init_31 : decode cX1_init 31 = .ok (.aload_n 0, 1) := by decide +kernel
theorem dX1_init_32 : decode cX1_init 32 = .ok (.iconst 0, 1) := by decide +kernel
theorem dX1_init_33 : decode cX1_init 33 = .ok (.putfield 27, 3) := by decide +kernel
theorem dX1_init_36 : decode cX1_init 36 = .ok (.aload_n 0, 1) := by decide +kernel
theorem dX1_init_37 : decode cX1_init 37 = .ok (.iconst (-1), 1) := by decide +kernel
theorem dX1_init_38 : decode cX1_init 38 = .ok (.putfield 30, 3) := by decide +kernel
theorem dX1_init_41 : decode cX1_init 41 = .ok (.return_, 1) := by decide +kernel
theorem dX1_isOnMarketOf_0 : decode cX1_isOnMarketOf 0 = .ok (.aload_n 0, 1) := by decide +kernel
theorem dX1_isOnMarketOf_1 : decode cX1_isOnMarketOf 1 = .ok (.getfield 9, 3) := by decide +kernel
theorem dX1_isOnMarketOf_4 : decode cX1_isOnMarketOf 4 = .ok (.iload_n 1, 1) := by decide +kernel
theorem dX1_isOnMarketOf_5 : decode cX1_isOnMarketOf 5 = .ok (.if_icmp .ne 14, 3) := by decide +kernel
theorem dX1_isOnMarketOf_8 : decode cX1_isOnMarketOf 8 = .ok (.aload_n 0, 1) := by decide +kernel
theorem dX1_isOnMarketOf_9 : decode cX1_isOnMarketOf 9 = .ok (.getfield 27, 3) := by decide +kernel
theorem dX1_isOnMarketOf_12 : decode cX1_isOnMarketOf 12 = .ok (.ifCond .ne 7, 3) := by decide +kernel
theorem dX1_isOnMarketOf_15 : decode cX1_isOnMarketOf 15 = .ok (.iconst 1, 1) := by decide +kernel
theorem dX1_isOnMarketOf_16 : decode cX1_isOnMarketOf 16 = .ok (.goto 4, 3) := by decide +kernel
theorem dX1_isOnMarketOf_19 : decode cX1_isOnMarketOf 19 = .ok (.iconst 0, 1) := by decide +kernel
theorem dX1_isOnMarketOf_20 : decode cX1_isOnMarketOf 20 = .ok (.ireturn, 1) := by decide +kernel
theorem dX1_alarmLevel_0 : decode cX1_alarmLevel 0 = .ok (.aload_n 0, 1) := by decide +kernel
theorem dX1_alarmLevel_1 : decode cX1_alarmLevel 1 = .ok (.getfield 33, 3) := by decide +kernel
theorem dX1_alarmLevel_4 : decode cX1_alarmLevel 4 = .ok (.aload_n 0, 1) := by decide +kernel
theorem dX1_alarmLevel_5 : decode cX1_alarmLevel 5 = .ok (.invokevirtual 36, 3) := by decide +kernel
theorem dX1_alarmLevel_8 : decode cX1_alarmLevel 8 = .ok (.iadd, 1) := by decide +kernel
theorem dX1_alarmLevel_9 : decode cX1_alarmLevel 9 = .ok (.aload_n 0, 1) := by decide +kernel
theorem dX1_alarmLevel_10 : decode cX1_alarmLevel 10 = .ok (.getfield 30, 3) := by decide +kernel
theorem dX1_alarmLevel_13 : decode cX1_alarmLevel 13 = .ok (.iconst 2, 1) := by decide +kernel
theorem dX1_alarmLevel_14 : decode cX1_alarmLevel 14 = .ok (.if_icmp .ne 7, 3) := by decide +kernel
theorem dX1_alarmLevel_17 : decode cX1_alarmLevel 17 = .ok (.iconst 1, 1) := by decide +kernel
theorem dX1_alarmLevel_18 : decode cX1_alarmLevel 18 = .ok (.goto 4, 3) := by decide +kernel
theorem dX1_alarmLevel_21 : decode cX1_alarmLevel 21 = .ok (.iconst 0, 1) := by decide +kernel
theorem dX1_alarmLevel_22 : decode cX1_alarmLevel 22 = .ok (.iadd, 1) := by decide +kernel
theorem dX1_alarmLevel_23 : decode cX1_alarmLevel 23 = .ok (.ireturn, 1) := by decide +kernel
theorem dX1_alarmByHarm_0 : decode cX1_alarmByHarm 0 = .ok (.aload_n 0, 1) := by decide +kernel
theorem dX1_alarmByHarm_1 : decode cX1_alarmByHarm 1 = .ok (.getfield 40, 3) := by decide +kernel
theorem dX1_alarmByHarm_4 : decode cX1_alarmByHarm 4 = .ok (.i2l, 1) := by decide +kernel
theorem dX1_alarmByHarm_5 : decode cX1_alarmByHarm 5 = .ok (.ldc2_w 43, 3) := by decide +kernel
theorem dX1_alarmByHarm_8 : decode cX1_alarmByHarm 8 = .ok (.lmul, 1) := by decide +kernel
theorem dX1_alarmByHarm_9 : decode cX1_alarmByHarm 9 = .ok (.lstore_n 1, 1) := by decide +kernel
theorem dX1_alarmByHarm_10 : decode cX1_alarmByHarm 10 = .ok (.lload_n 1, 1) := by decide +kernel
theorem dX1_alarmByHarm_11 : decode cX1_alarmByHarm 11 = .ok (.ldc2_w 45, 3) := by decide +kernel
theorem dX1_alarmByHarm_14 : decode cX1_alarmByHarm 14 = .ok (.aload_n 0, 1) := by decide +kernel
theorem dX1_alarmByHarm_15 : decode cX1_alarmByHarm 15 = .ok (.getfield 15, 3) := by decide +kernel
theorem dX1_alarmByHarm_18 : decode cX1_alarmByHarm 18 = .ok (.i2l, 1) := by decide +kernel
theorem dX1_alarmByHarm_19 : decode cX1_alarmByHarm 19 = .ok (.lmul, 1) := by decide +kernel
theorem dX1_alarmByHarm_20 : decode cX1_alarmByHarm 20 = .ok (.lcmp, 1) := by decide +kernel
theorem dX1_alarmByHarm_21 : decode cX1_alarmByHarm 21 = .ok (.ifCond .lt 5, 3) := by decide +kernel
theorem dX1_alarmByHarm_24 : decode cX1_alarmByHarm 24 = .ok (.iconst 2, 1) := by decide +kernel
theorem dX1_alarmByHarm_25 : decode cX1_alarmByHarm 25 = .ok (.ireturn, 1) := by decide +kernel
theorem dX1_alarmByHarm_26 : decode cX1_alarmByHarm 26 = .ok (.lload_n 1, 1) := by decide +kernel
theorem dX1_alarmByHarm_27 : decode cX1_alarmByHarm 27 = .ok (.ldc2_w 47, 3) := by decide +kernel
theorem dX1_alarmByHarm_30 : decode cX1_alarmByHarm 30 = .ok (.aload_n 0, 1) := by decide +kernel
theorem dX1_alarmByHarm_31 : decode cX1_alarmByHarm 31 = .ok (.getfield 15, 3) := by decide +kernel
theorem dX1_alarmByHarm_34 : decode cX1_alarmByHarm 34 = .ok (.i2l, 1) := by decide +kernel
theorem dX1_alarmByHarm_35 : decode cX1_alarmByHarm 35 = .ok (.lmul, 1) := by decide +kernel
theorem dX1_alarmByHarm_36 : decode cX1_alarmByHarm 36 = .ok (.lcmp, 1) := by decide +kernel
theorem dX1_alarmByHarm_37 : decode cX1_alarmByHarm 37 = .ok (.ifCond .lt 7, 3) := by decide +kernel
theorem dX1_alarmByHarm_40 : decode cX1_alarmByHarm 40 = .ok (.iconst 1, 1) := by decide +kernel
theorem dX1_alarmByHarm_41 : decode cX1_alarmByHarm 41 = .ok (.goto 4, 3) := by decide +kernel
theorem dX1_alarmByHarm_44 : decode cX1_alarmByHarm 44 = .ok (.iconst 0, 1) := by decide +kernel
theorem dX1_alarmByHarm_45 : decode cX1_alarmByHarm 45 = .ok (.ireturn, 1) := by decide +kernel
theorem dX2_init_0 : decode cX2_init 0 = .ok (.aload_n 0, 1) := by decide +kernel
theorem dX2_init_1 : decode cX2_init 1 = .ok (.invokespecial 3, 3) := by decide +kernel
theorem dX2_init_4 : decode cX2_init 4 = .ok (.aload_n 0, 1) := by decide +kernel
theorem dX2_init_5 : decode cX2_init 5 = .ok (.iload_n 1, 1) := by decide +kernel
theorem dX2_init_6 : decode cX2_init 6 = .ok (.putfield 9, 3) := by decide +kernel
theorem dX2_init_9 : decode cX2_init 9 = .ok (.aload_n 0, 1) := by decide +kernel
theorem dX2_init_10 : decode cX2_init 10 = .ok (.iload_n 2, 1) := by decide +kernel
theorem dX2_init_11 : decode cX2_init 11 = .ok (.putfield 15, 3) := by decide +kernel
theorem dX2_init_14 : decode cX2_init 14 = .ok (.aload_n 0, 1) := by decide +kernel
theorem dX2_init_15 : decode cX2_init 15 = .ok (.iconst (-1), 1) := by decide +kernel
theorem dX2_init_16 : decode cX2_init 16 = .ok (.putfield 18, 3) := by decide +kernel
theorem dX2_init_19 : decode cX2_init 19 = .ok (.return_, 1) := by decide +kernel
theorem dX2_isSuspended_0 : decode cX2_isSuspended 0 = .ok (.aload_n 0, 1) := by decide +kernel
theorem dX2_isSuspended_1 : decode cX2_isSuspended 1 = .ok (.getfield 18, 3) := by decide +kernel
theorem dX2_isSuspended_4 : decode cX2_isSuspended 4 = .ok (.iconst (-1), 1) := by decide +kernel
theorem dX2_isSuspended_5 : decode cX2_isSuspended 5 = .ok (.if_icmp .eq 7, 3) := by decide +kernel
theorem dX2_isSuspended_8 : decode cX2_isSuspended 8 = .ok (.iconst 1, 1) := by decide +kernel
theorem dX2_isSuspended_9 : decode cX2_isSuspended 9 = .ok (.goto 4, 3) := by decide +kernel
theorem dX2_isSuspended_12 : decode cX2_isSuspended 12 = .ok (.iconst 0, 1) := by decide +kernel
theorem dX2_isSuspended_13 : decode cX2_isSuspended 13 = .ok (.ireturn, 1) := by decide +kernel
theorem dX2_hasInScope_0 : decode cX2_hasInScope 0 = .ok (.iload_n 1, 1) := by decide +kernel
theorem dX2_hasInScope_1 : decode cX2_hasInScope 1 = .ok (.aload_n 0, 1) := by decide +kernel
theorem dX2_hasInScope_2 : decode cX2_hasInScope 2 = .ok (.getfield 15, 3) := by decide +kernel
theorem dX2_hasInScope_5 : decode cX2_hasInScope 5 = .ok (.iconst (-1), 1) := by decide +kernel
theorem dX2_hasInScope_6 : decode cX2_hasInScope 6 = .ok (.ixor, 1) := by decide +kernel
theorem dX2_hasInScope_7 : decode cX2_hasInScope 7 = .ok (.iand, 1) := by decide +kernel
theorem dX2_hasInScope_8 : decode cX2_hasInScope 8 = .ok (.ifCond .ne 7, 3) := by decide +kernel
theorem dX2_hasInScope_11 : decode cX2_hasInScope 11 = .ok (.iconst 1, 1) := by decide +kernel
theorem dX2_hasInScope_12 : decode cX2_hasInScope 12 = .ok (.goto 4, 3) := by decide +kernel
theorem dX2_hasInScope_15 : decode cX2_hasInScope 15 = .ok (.iconst 0, 1) := by decide +kernel
theorem dX2_hasInScope_16 : decode cX2_hasInScope 16 = .ok (.ireturn, 1) := by decide +kernel
theorem dX2_isCertificateUpheld_0 : decode cX2_isCertificateUpheld 0 = .ok (.aload_n 0, 1) := by decide +kernel
theorem dX2_isCertificateUpheld_1 : decode cX2_isCertificateUpheld 1 = .ok (.invokevirtual 21, 3) := by decide +kernel
theorem dX2_isCertificateUpheld_4 : decode cX2_isCertificateUpheld 4 = .ok (.ifCond .eq 14, 3) := by decide +kernel
theorem dX2_isCertificateUpheld_7 : decode cX2_isCertificateUpheld 7 = .ok (.iload_n 1, 1) := by decide +kernel
theorem dX2_isCertificateUpheld_8 : decode cX2_isCertificateUpheld 8 = .ok (.aload_n 0, 1) := by decide +kernel
theorem dX2_isCertificateUpheld_9 : decode cX2_isCertificateUpheld 9 = .ok (.getfield 18, 3) := by decide +kernel
theorem dX2_isCertificateUpheld_12 : decode cX2_isCertificateUpheld 12 = .ok (.bipush 100, 2) := by decide +kernel
theorem dX2_isCertificateUpheld_14 : decode cX2_isCertificateUpheld 14 = .ok (.iadd, 1) := by decide +kernel
theorem dX2_isCertificateUpheld_15 : decode cX2_isCertificateUpheld 15 = .ok (.if_icmp .gt 7, 3) := by decide +kernel
theorem dX2_isCertificateUpheld_18 : decode cX2_isCertificateUpheld 18 = .ok (.iconst 1, 1) := by decide +kernel
theorem dX2_isCertificateUpheld_19 : decode cX2_isCertificateUpheld 19 = .ok (.goto 4, 3) := by decide +kernel
theorem dX2_isCertificateUpheld_22 : decode cX2_isCertificateUpheld 22 = .ok (.iconst 0, 1) := by decide +kernel
theorem dX2_isCertificateUpheld_23 : decode cX2_isCertificateUpheld 23 = .ok (.ireturn, 1) := by decide +kernel
theorem dX3_init_0 : decode cX3_init 0 = .ok (.aload_n 0, 1) := by decide +kernel
theorem dX3_init_1 : decode cX3_init 1 = .ok (.invokespecial 3, 3) := by decide +kernel
theorem dX3_init_4 : decode cX3_init 4 = .ok (.aload_n 0, 1) := by decide +kernel
theorem dX3_init_5 : decode cX3_init 5 = .ok (.iload_n 1, 1) := by decide +kernel
theorem dX3_init_6 : decode cX3_init 6 = .ok (.putfield 9, 3) := by decide +kernel
theorem dX3_init_9 : decode cX3_init 9 = .ok (.aload_n 0, 1) := by decide +kernel
theorem dX3_init_10 : decode cX3_init 10 = .ok (.bipush 8, 2) := by decide +kernel
theorem dX3_init_12 : decode cX3_init 12 = .ok (.newarray .int, 2) := by decide +kernel
theorem dX3_init_14 : decode cX3_init 14 = .ok (.putfield 15, 3) := by decide +kernel
theorem dX3_init_17 : decode cX3_init 17 = .ok (.aload_n 0, 1) := by decide +kernel
theorem dX3_init_18 : decode cX3_init 18 = .ok (.bipush 8, 2) := by decide +kernel
theorem dX3_init_20 : decode cX3_init 20 = .ok (.newarray .int, 2) := by decide +kernel
theorem dX3_init_22 : decode cX3_init 22 = .ok (.putfield 19, 3) := by decide +kernel
theorem dX3_init_25 : decode cX3_init 25 = .ok (.aload_n 0, 1) := by decide +kernel
theorem dX3_init_26 : decode cX3_init 26 = .ok (.bipush 12, 2) := by decide +kernel
theorem dX3_init_28 : decode cX3_init 28 = .ok (.newarray .int, 2) := by decide +kernel
theorem dX3_init_30 : decode cX3_init 30 = .ok (.putfield 22, 3) := by decide +kernel
theorem dX3_init_33 : decode cX3_init 33 = .ok (.aload_n 0, 1) := by decide +kernel
theorem dX3_init_34 : decode cX3_init 34 = .ok (.iconst (-1), 1) := by decide +kernel
theorem dX3_init_35 : decode cX3_init 35 = .ok (.putfield 25, 3) := by decide +kernel
theorem dX3_init_38 : decode cX3_init 38 = .ok (.aload_n 0, 1) := by decide +kernel
theorem dX3_init_39 : decode cX3_init 39 = .ok (.iconst (-1), 1) := by decide +kernel
theorem dX3_init_40 : decode cX3_init 40 = .ok (.putfield 28, 3) := by decide +kernel
theorem dX3_init_43 : decode cX3_init 43 = .ok (.aload_n 0, 1) := by decide +kernel
theorem dX3_init_44 : decode cX3_init 44 = .ok (.iconst (-1), 1) := by decide +kernel
theorem dX3_init_45 : decode cX3_init 45 = .ok (.putfield 31, 3) := by decide +kernel
theorem dX3_init_48 : decode cX3_init 48 = .ok (.return_, 1) := by decide +kernel
theorem dX3_startNextVersion_0 : decode cX3_startNextVersion 0 = .ok (.aload_n 0, 1) := by decide +kernel
theorem dX3_startNextVersion_1 : decode cX3_startNextVersion 1 = .ok (.dup, 1) := by decide +kernel
theorem dX3_startNextVersion_2 : decode cX3_startNextVersion 2 = .ok (.getfield 34, 3) := by decide +kernel
theorem dX3_startNextVersion_5 : decode cX3_startNextVersion 5 = .ok (.iconst 1, 1) := by decide +kernel
theorem dX3_startNextVersion_6 : decode cX3_startNextVersion 6 = .ok (.iadd, 1) := by decide +kernel
theorem dX3_startNextVersion_7 : decode cX3_startNextVersion 7 = .ok (.putfield 34, 3) := by decide +kernel
theorem dX3_startNextVersion_10 : decode cX3_startNextVersion 10 = .ok (.iconst 0, 1) := by decide +kernel
theorem dX3_startNextVersion_11 : decode cX3_startNextVersion 11 = .ok (.istore_n 1, 1) := by decide +kernel
theorem dX3_startNextVersion_12 : decode cX3_startNextVersion 12 = .ok (.iload_n 1, 1) := by decide +kernel
theorem dX3_startNextVersion_13 : decode cX3_startNextVersion 13 = .ok (.aload_n 0, 1) := by decide +kernel
theorem dX3_startNextVersion_14 : decode cX3_startNextVersion 14 = .ok (.getfield 22, 3) := by decide +kernel
theorem dX3_startNextVersion_17 : decode cX3_startNextVersion 17 = .ok (.arraylength, 1) := by decide +kernel
theorem dX3_startNextVersion_18 : decode cX3_startNextVersion 18 = .ok (.if_icmp .ge 16, 3) := by decide +kernel
theorem dX3_startNextVersion_21 : decode cX3_startNextVersion 21 = .ok (.aload_n 0, 1) := by decide +kernel
theorem dX3_startNextVersion_22 : decode cX3_startNextVersion 22 = .ok (.getfield 22, 3) := by decide +kernel
theorem dX3_startNextVersion_25 : decode cX3_startNextVersion 25 = .ok (.iload_n 1, 1) := by decide +kernel
theorem dX3_startNextVersion_26 : decode cX3_startNextVersion 26 = .ok (.iconst 0, 1) := by decide +kernel
theorem dX3_startNextVersion_27 : decode cX3_startNextVersion 27 = .ok (.iastore, 1) := by decide +kernel
theorem dX3_startNextVersion_28 : decode cX3_startNextVersion 28 = .ok (.iinc 1 1, 3) := by decide +kernel
theorem dX3_startNextVersion_31 : decode cX3_startNextVersion 31 = .ok (.goto (-19), 3) := by decide +kernel
theorem dX3_startNextVersion_34 : decode cX3_startNextVersion 34 = .ok (.aload_n 0, 1) := by decide +kernel
theorem dX3_startNextVersion_35 : decode cX3_startNextVersion 35 = .ok (.iconst 0, 1) := by decide +kernel
theorem dX3_startNextVersion_36 : decode cX3_startNextVersion 36 = .ok (.putfield 37, 3) := by decide +kernel
theorem dX3_startNextVersion_39 : decode cX3_startNextVersion 39 = .ok (.aload_n 0, 1) := by decide +kernel
theorem dX3_startNextVersion_40 : decode cX3_startNextVersion 40 = .ok (.iconst (-1), 1) := by decide +kernel
theorem dX3_startNextVersion_41 : decode cX3_startNextVersion 41 = .ok (.putfield 25, 3) := by decide +kernel
theorem dX3_startNextVersion_44 : decode cX3_startNextVersion 44 = .ok (.aload_n 0, 1) := by decide +kernel
theorem dX3_startNextVersion_45 : decode cX3_startNextVersion 45 = .ok (.iconst (-1), 1) := by decide +kernel
theorem dX3_startNextVersion_46 : decode cX3_startNextVersion 46 = .ok (.putfield 31, 3) := by decide +kernel
theorem dX3_startNextVersion_49 : decode cX3_startNextVersion 49 = .ok (.aload_n 0, 1) := by decide +kernel
theorem dX3_startNextVersion_50 : decode cX3_startNextVersion 50 = .ok (.invokevirtual 40, 3) := by decide +kernel
theorem dX3_startNextVersion_53 : decode cX3_startNextVersion 53 = .ok (.return_, 1) := by decide +kernel
theorem dX3_endCertificate_0 : decode cX3_endCertificate 0 = .ok (.aload_n 0, 1) := by decide +kernel
theorem dX3_endCertificate_1 : decode cX3_endCertificate 1 = .ok (.aconst_null, 1) := by decide +kernel
theorem dX3_endCertificate_2 : decode cX3_endCertificate 2 = .ok (.putfield 43, 3) := by decide +kernel
theorem dX3_endCertificate_5 : decode cX3_endCertificate 5 = .ok (.aload_n 0, 1) := by decide +kernel
theorem dX3_endCertificate_6 : decode cX3_endCertificate 6 = .ok (.iconst (-1), 1) := by decide +kernel
theorem dX3_endCertificate_7 : decode cX3_endCertificate 7 = .ok (.putfield 28, 3) := by decide +kernel
theorem dX3_endCertificate_10 : decode cX3_endCertificate 10 = .ok (.return_, 1) := by decide +kernel
theorem dX3_isVisitCounted_0 : decode cX3_isVisitCounted 0 = .ok (.aload_n 0, 1) := by decide +kernel
theorem dX3_isVisitCounted_1 : decode cX3_isVisitCounted 1 = .ok (.getfield 31, 3) := by decide +kernel
theorem dX3_isVisitCounted_4 : decode cX3_isVisitCounted 4 = .ok (.iconst (-1), 1) := by decide +kernel
theorem dX3_isVisitCounted_5 : decode cX3_isVisitCounted 5 = .ok (.if_icmp .eq 19, 3) := by decide +kernel
theorem dX3_isVisitCounted_8 : decode cX3_isVisitCounted 8 = .ok (.iload_n 1, 1) := by decide +kernel
theorem dX3_isVisitCounted_9 : decode cX3_isVisitCounted 9 = .ok (.aload_n 0, 1) := by decide +kernel
theorem dX3_isVisitCounted_10 : decode cX3_isVisitCounted 10 = .ok (.getfield 31, 3) := by decide +kernel
theorem dX3_isVisitCounted_13 : decode cX3_isVisitCounted 13 = .ok (.sipush 365, 3) := by decide +kernel
theorem dX3_isVisitCounted_16 : decode cX3_isVisitCounted 16 = .ok (.iadd, 1) := by decide +kernel
theorem dX3_isVisitCounted_17 : decode cX3_isVisitCounted 17 = .ok (.if_icmp .gt 7, 3) := by decide +kernel
theorem dX3_isVisitCounted_20 : decode cX3_isVisitCounted 20 = .ok (.iconst 1, 1) := by decide +kernel
theorem dX3_isVisitCounted_21 : decode cX3_isVisitCounted 21 = .ok (.goto 4, 3) := by decide +kernel
theorem dX3_isVisitCounted_24 : decode cX3_isVisitCounted 24 = .ok (.iconst 0, 1) := by decide +kernel
theorem dX3_isVisitCounted_25 : decode cX3_isVisitCounted 25 = .ok (.ireturn, 1) := by decide +kernel
theorem dX3_hazardsBeforeAbove_0 : decode cX3_hazardsBeforeAbove 0 = .ok (.iload_n 1, 1) := by decide +kernel
theorem dX3_hazardsBeforeAbove_1 : decode cX3_hazardsBeforeAbove 1 = .ok (.aload_n 0, 1) := by decide +kernel
theorem dX3_hazardsBeforeAbove_2 : decode cX3_hazardsBeforeAbove 2 = .ok (.getfield 15, 3) := by decide +kernel
theorem dX3_hazardsBeforeAbove_5 : decode cX3_hazardsBeforeAbove 5 = .ok (.invokestatic 47, 3) := by decide +kernel
theorem dX3_hazardsBeforeAbove_8 : decode cX3_hazardsBeforeAbove 8 = .ok (.ireturn, 1) := by decide +kernel
theorem dX3_hazardsAfterAbove_0 : decode cX3_hazardsAfterAbove 0 = .ok (.iload_n 1, 1) := by decide +kernel
theorem dX3_hazardsAfterAbove_1 : decode cX3_hazardsAfterAbove 1 = .ok (.aload_n 0, 1) := by decide +kernel
theorem dX3_hazardsAfterAbove_2 : decode cX3_hazardsAfterAbove 2 = .ok (.getfield 19, 3) := by decide +kernel
theorem dX3_hazardsAfterAbove_5 : decode cX3_hazardsAfterAbove 5 = .ok (.invokestatic 47, 3) := by decide +kernel
theorem dX3_hazardsAfterAbove_8 : decode cX3_hazardsAfterAbove 8 = .ok (.ireturn, 1) := by decide +kernel
theorem dX3_hazardsAbove_0 : decode cX3_hazardsAbove 0 = .ok (.iconst 0, 1) := by decide +kernel
theorem dX3_hazardsAbove_1 : decode cX3_hazardsAbove 1 = .ok (.istore_n 2, 1) := by decide +kernel
theorem dX3_hazardsAbove_2 : decode cX3_hazardsAbove 2 = .ok (.iconst 0, 1) := by decide +kernel
theorem dX3_hazardsAbove_3 : decode cX3_hazardsAbove 3 = .ok (.istore_n 3, 1) := by decide +kernel
theorem dX3_hazardsAbove_4 : decode cX3_hazardsAbove 4 = .ok (.iload_n 3, 1) := by decide +kernel
theorem dX3_hazardsAbove_5 : decode cX3_hazardsAbove 5 = .ok (.aload_n 1, 1) := by decide +kernel
theorem dX3_hazardsAbove_6 : decode cX3_hazardsAbove 6 = .ok (.arraylength, 1) := by decide +kernel
theorem dX3_hazardsAbove_7 : decode cX3_hazardsAbove 7 = .ok (.if_icmp .ge 22, 3) := by decide +kernel
theorem dX3_hazardsAbove_10 : decode cX3_hazardsAbove 10 = .ok (.aload_n 1, 1) := by decide +kernel
theorem dX3_hazardsAbove_11 : decode cX3_hazardsAbove 11 = .ok (.iload_n 3, 1) := by decide +kernel
theorem dX3_hazardsAbove_12 : decode cX3_hazardsAbove 12 = .ok (.iaload, 1) := by decide +kernel
theorem dX3_hazardsAbove_13 : decode cX3_hazardsAbove 13 = .ok (.iload_n 0, 1) := by decide +kernel
theorem dX3_hazardsAbove_14 : decode cX3_hazardsAbove 14 = .ok (.if_icmp .le 9, 3) := by decide +kernel
theorem dX3_hazardsAbove_17 : decode cX3_hazardsAbove 17 = .ok (.iload_n 2, 1) := by decide +kernel
theorem dX3_hazardsAbove_18 : decode cX3_hazardsAbove 18 = .ok (.iconst 1, 1) := by decide +kernel
theorem dX3_hazardsAbove_19 : decode cX3_hazardsAbove 19 = .ok (.iload_n 3, 1) := by decide +kernel
theorem dX3_hazardsAbove_20 : decode cX3_hazardsAbove 20 = .ok (.ishl, 1) := by decide +kernel
theorem dX3_hazardsAbove_21 : decode cX3_hazardsAbove 21 = .ok (.ior, 1) := by decide +kernel
theorem dX3_hazardsAbove_22 : decode cX3_hazardsAbove 22 = .ok (.istore_n 2, 1) := by decide +kernel
theorem dX3_hazardsAbove_23 : decode cX3_hazardsAbove 23 = .ok (.iinc 3 1, 3) := by decide +kernel
theorem dX3_hazardsAbove_26 : decode cX3_hazardsAbove 26 = .ok (.goto (-22), 3) := by decide +kernel
theorem dX3_hazardsAbove_29 : decode cX3_hazardsAbove 29 = .ok (.iload_n 2, 1) := by decide +kernel
theorem dX3_hazardsAbove_30 : decode cX3_hazardsAbove 30 = .ok (.ireturn, 1) := by decide +kernel
theorem dX4_init_0 : decode cX4_init 0 = .ok (.aload_n 0, 1) := by decide +kernel
theorem dX4_init_1 : decode cX4_init 1 = .ok (.invokespecial 3, 3) := by decide +kernel
theorem dX4_init_4 : decode cX4_init 4 = .ok (.aload_n 0, 1) := by decide +kernel
theorem dX4_init_5 : decode cX4_init 5 = .ok (.iload_n 1, 1) := by decide +kernel
theorem dX4_init_6 : decode cX4_init 6 = .ok (.putfield 9, 3) := by decide +kernel
theorem dX4_init_9 : decode cX4_init 9 = .ok (.aload_n 0, 1) := by decide +kernel
theorem dX4_init_10 : decode cX4_init 10 = .ok (.iload_n 2, 1) := by decide +kernel
theorem dX4_init_11 : decode cX4_init 11 = .ok (.putfield 15, 3) := by decide +kernel
theorem dX4_init_14 : decode cX4_init 14 = .ok (.aload_n 0, 1) := by decide +kernel
theorem dX4_init_15 : decode cX4_init 15 = .ok (.iconst (-1), 1) := by decide +kernel
theorem dX4_init_16 : decode cX4_init 16 = .ok (.putfield 18, 3) := by decide +kernel
theorem dX4_init_19 : decode cX4_init 19 = .ok (.return_, 1) := by decide +kernel
theorem dX4_isListedOn_0 : decode cX4_isListedOn 0 = .ok (.iload_n 1, 1) := by decide +kernel
theorem dX4_isListedOn_1 : decode cX4_isListedOn 1 = .ok (.aload_n 0, 1) := by decide +kernel
theorem dX4_isListedOn_2 : decode cX4_isListedOn 2 = .ok (.getfield 15, 3) := by decide +kernel
theorem dX4_isListedOn_5 : decode cX4_isListedOn 5 = .ok (.if_icmp .lt 23, 3) := by decide +kernel
theorem dX4_isListedOn_8 : decode cX4_isListedOn 8 = .ok (.aload_n 0, 1) := by decide +kernel
theorem dX4_isListedOn_9 : decode cX4_isListedOn 9 = .ok (.getfield 18, 3) := by decide +kernel
theorem dX4_isListedOn_12 : decode cX4_isListedOn 12 = .ok (.iconst (-1), 1) := by decide +kernel
theorem dX4_isListedOn_13 : decode cX4_isListedOn 13 = .ok (.if_icmp .eq 11, 3) := by decide +kernel
theorem dX4_isListedOn_16 : decode cX4_isListedOn 16 = .ok (.iload_n 1, 1) := by decide +kernel
theorem dX4_isListedOn_17 : decode cX4_isListedOn 17 = .ok (.aload_n 0, 1) := by decide +kernel
theorem dX4_isListedOn_18 : decode cX4_isListedOn 18 = .ok (.getfield 18, 3) := by decide +kernel
theorem dX4_isListedOn_21 : decode cX4_isListedOn 21 = .ok (.if_icmp .gt 7, 3) := by decide +kernel
theorem dX4_isListedOn_24 : decode cX4_isListedOn 24 = .ok (.iconst 1, 1) := by decide +kernel
theorem dX4_isListedOn_25 : decode cX4_isListedOn 25 = .ok (.goto 4, 3) := by decide +kernel
theorem dX4_isListedOn_28 : decode cX4_isListedOn 28 = .ok (.iconst 0, 1) := by decide +kernel
theorem dX4_isListedOn_29 : decode cX4_isListedOn 29 = .ok (.ireturn, 1) := by decide +kernel
theorem dX5_init_0 : decode cX5_init 0 = .ok (.aload_n 0, 1) := by decide +kernel
theorem dX5_init_1 : decode cX5_init 1 = .ok (.invokespecial 1, 3) := by decide +kernel
theorem dX5_init_4 : decode cX5_init 4 = .ok (.aload_n 0, 1) := by decide +kernel
theorem dX5_init_5 : decode cX5_init 5 = .ok (.bipush 6, 2) := by decide +kernel
theorem dX5_init_7 : decode cX5_init 7 = .ok (.anewarray 9, 3) := by decide +kernel
theorem dX5_init_10 : decode cX5_init 10 = .ok (.putfield 11, 3) := by decide +kernel
theorem dX5_init_13 : decode cX5_init 13 = .ok (.aload_n 0, 1) := by decide +kernel
theorem dX5_init_14 : decode cX5_init 14 = .ok (.bipush 12, 2) := by decide +kernel
theorem dX5_init_16 : decode cX5_init 16 = .ok (.anewarray 15, 3) := by decide +kernel
theorem dX5_init_19 : decode cX5_init 19 = .ok (.putfield 17, 3) := by decide +kernel
theorem dX5_init_22 : decode cX5_init 22 = .ok (.aload_n 0, 1) := by decide +kernel
theorem dX5_init_23 : decode cX5_init 23 = .ok (.bipush 10, 2) := by decide +kernel
theorem dX5_init_25 : decode cX5_init 25 = .ok (.anewarray 21, 3) := by decide +kernel
theorem dX5_init_28 : decode cX5_init 28 = .ok (.putfield 23, 3) := by decide +kernel
theorem dX5_init_31 : decode cX5_init 31 = .ok (.aload_n 0, 1) := by decide +kernel
theorem dX5_init_32 : decode cX5_init 32 = .ok (.iconst 5, 1) := by decide +kernel
theorem dX5_init_33 : decode cX5_init 33 = .ok (.anewarray 27, 3) := by decide +kernel
theorem dX5_init_36 : decode cX5_init 36 = .ok (.putfield 29, 3) := by decide +kernel
theorem dX5_init_39 : decode cX5_init 39 = .ok (.aload_n 0, 1) := by decide +kernel
theorem dX5_init_40 : decode cX5_init 40 = .ok (.bipush 40, 2) := by decide +kernel
theorem dX5_init_42 : decode cX5_init 42 = .ok (.anewarray 33, 3) := by decide +kernel
theorem dX5_init_45 : decode cX5_init 45 = .ok (.putfield 35, 3) := by decide +kernel
theorem dX5_init_48 : decode cX5_init 48 = .ok (.return_, 1) := by decide +kernel
theorem dX5_act_0 : decode cX5_act 0 = .ok (.iload_n 1, 1) := by decide +kernel
theorem dX5_act_1 : decode cX5_act 1 = .ok (.iconst 1, 1) := by decide +kernel
theorem dX5_act_2 : decode cX5_act 2 = .ok (.sipush 255, 3) := by decide +kernel
theorem dX5_act_5 : decode cX5_act 5 = .ok (.invokestatic 39, 3) := by decide +kernel
theorem dX5_act_8 : decode cX5_act 8 = .ok (.iload_n 2, 1) := by decide +kernel
theorem dX5_act_9 : decode cX5_act 9 = .ok (.iconst 0, 1) := by decide +kernel
theorem dX5_act_10 : decode cX5_act 10 = .ok (.sipush 255, 3) := by decide +kernel
theorem dX5_act_13 : decode cX5_act 13 = .ok (.invokestatic 39, 3) := by decide +kernel
theorem dX5_act_16 : decode cX5_act 16 = .ok (.iload_n 3, 1) := by decide +kernel
theorem dX5_act_17 : decode cX5_act 17 = .ok (.iconst 1, 1) := by decide +kernel
theorem dX5_act_18 : decode cX5_act 18 = .ok (.sipush 255, 3) := by decide +kernel
theorem dX5_act_21 : decode cX5_act 21 = .ok (.invokestatic 39, 3) := by decide +kernel
theorem dX5_act_24 : decode cX5_act 24 = .ok (.iload 4, 2) := by decide +kernel
theorem dX5_act_26 : decode cX5_act 26 = .ok (.iconst 0, 1) := by decide +kernel
theorem dX5_act_27 : decode cX5_act 27 = .ok (.sipush 5000, 3) := by decide +kernel
theorem dX5_act_30 : decode cX5_act 30 = .ok (.invokestatic 39, 3) := by decide +kernel
theorem dX5_act_33 : decode cX5_act 33 = .ok (.aload_n 0, 1) := by decide +kernel
theorem dX5_act_34 : decode cX5_act 34 = .ok (.getfield 43, 3) := by decide +kernel
theorem dX5_act_37 : decode cX5_act 37 = .ok (.ifCond .lt 15, 3) := by decide +kernel
theorem dX5_act_40 : decode cX5_act 40 = .ok (.aload_n 0, 1) := by decide +kernel
theorem dX5_act_41 : decode cX5_act 41 = .ok (.getfield 43, 3) := by decide +kernel
theorem dX5_act_44 : decode cX5_act 44 = .ok (.aload_n 0, 1) := by decide +kernel
theorem dX5_act_45 : decode cX5_act 45 = .ok (.getfield 11, 3) := by decide +kernel
theorem dX5_act_48 : decode cX5_act 48 = .ok (.arraylength, 1) := by decide +kernel
theorem dX5_act_49 : decode cX5_act 49 = .ok (.if_icmp .lt 13, 3) := by decide +kernel
theorem dX5_act_52 : decode cX5_act 52 = .ok (.new 47, 3) := by decide +kernel
theorem dX5_act_55 : decode cX5_act 55 = .ok (.dup, 1) := by decide +kernel
theorem dX5_act_56 : decode cX5_act 56 = .ok (.ldc 49, 2) := by decide +kernel
theorem dX5_act_58 : decode cX5_act 58 = .ok (.invokespecial 51, 3) := by decide +kernel
theorem dX5_act_61 : decode cX5_act 61 = .ok (.athrow, 1) := by decide +kernel
theorem dX5_act_62 : decode cX5_act 62 = .ok (.aload_n 0, 1) := by decide +kernel
theorem dX5_act_63 : decode cX5_act 63 = .ok (.getfield 11, 3) := by decide +kernel
theorem dX5_act_66 : decode cX5_act 66 = .ok (.aload_n 0, 1) := by decide +kernel
theorem dX5_act_67 : decode cX5_act 67 = .ok (.getfield 43, 3) := by decide +kernel
theorem dX5_act_70 : decode cX5_act 70 = .ok (.new 9, 3) := by decide +kernel
theorem dX5_act_73 : decode cX5_act 73 = .ok (.dup, 1) := by decide +kernel
theorem dX5_act_74 : decode cX5_act 74 = .ok (.iload_n 1, 1) := by decide +kernel
theorem dX5_act_75 : decode cX5_act 75 = .ok (.iload_n 2, 1) := by decide +kernel
theorem dX5_act_76 : decode cX5_act 76 = .ok (.iload_n 3, 1) := by decide +kernel
theorem dX5_act_77 : decode cX5_act 77 = .ok (.iload 4, 2) := by decide +kernel
theorem dX5_act_79 : decode cX5_act 79 = .ok (.invokespecial 54, 3) := by decide +kernel
theorem dX5_act_82 : decode cX5_act 82 = .ok (.aastore, 1) := by decide +kernel
theorem dX5_act_83 : decode cX5_act 83 = .ok (.aload_n 0, 1) := by decide +kernel
theorem dX5_act_84 : decode cX5_act 84 = .ok (.dup, 1) := by decide +kernel
theorem dX5_act_85 : decode cX5_act 85 = .ok (.getfield 43, 3) := by decide +kernel
theorem dX5_act_88 : decode cX5_act 88 = .ok (.dup_x1, 1) := by decide +kernel
theorem dX5_act_89 : decode cX5_act 89 = .ok (.iconst 1, 1) := by decide +kernel
theorem dX5_act_90 : decode cX5_act 90 = .ok (.iadd, 1) := by decide +kernel
theorem dX5_act_91 : decode cX5_act 91 = .ok (.putfield 43, 3) := by decide +kernel
theorem dX5_act_94 : decode cX5_act 94 = .ok (.ireturn, 1) := by decide +kernel
theorem dX5_special_0 : decode cX5_special 0 = .ok (.aload_n 0, 1) := by decide +kernel
theorem dX5_special_1 : decode cX5_special 1 = .ok (.iload_n 1, 1) := by decide +kernel
theorem dX5_special_2 : decode cX5_special 2 = .ok (.invokevirtual 57, 3) := by decide +kernel
theorem dX5_special_5 : decode cX5_special 5 = .ok (.astore_n 3, 1) := by decide +kernel
theorem dX5_special_6 : decode cX5_special 6 = .ok (.aload_n 0, 1) := by decide +kernel
theorem dX5_special_7 : decode cX5_special 7 = .ok (.iload_n 2, 1) := by decide +kernel
theorem dX5_special_8 : decode cX5_special 8 = .ok (.invokevirtual 57, 3) := by decide +kernel
theorem dX5_special_11 : decode cX5_special 11 = .ok (.astore 4, 2) := by decide +kernel
theorem dX5_special_13 : decode cX5_special 13 = .ok (.iload_n 1, 1) := by decide +kernel
theorem dX5_special_14 : decode cX5_special 14 = .ok (.iload_n 2, 1) := by decide +kernel
theorem dX5_special_15 : decode cX5_special 15 = .ok (.if_icmp .ne 13, 3) := by decide +kernel
theorem dX5_special_18 : decode cX5_special 18 = .ok (.new 61, 3) := by decide +kernel
theorem dX5_special_21 : decode cX5_special 21 = .ok (.dup, 1) := by decide +kernel
theorem dX5_special_22 : decode cX5_special 22 = .ok (.ldc 63, 2) := by decide +kernel
theorem dX5_special_24 : decode cX5_special 24 = .ok (.invokespecial 65, 3) := by decide +kernel
theorem dX5_special_27 : decode cX5_special 27 = .ok (.athrow, 1) := by decide +kernel
theorem dX5_special_28 : decode cX5_special 28 = .ok (.aload_n 0, 1) := by decide +kernel
theorem dX5_special_29 : decode cX5_special 29 = .ok (.aload_n 3, 1) := by decide +kernel
theorem dX5_special_30 : decode cX5_special 30 = .ok (.invokevirtual 66, 3) := by decide +kernel
theorem dX5_special_33 : decode cX5_special 33 = .ok (.iload_n 2, 1) := by decide +kernel
theorem dX5_special_34 : decode cX5_special 34 = .ok (.invokestatic 70, 3) := by decide +kernel
theorem dX5_special_37 : decode cX5_special 37 = .ok (.ifCond .eq 13, 3) := by decide +kernel
theorem dX5_special_40 : decode cX5_special 40 = .ok (.new 47, 3) := by decide +kernel
theorem dX5_special_43 : decode cX5_special 43 = .ok (.dup, 1) := by decide +kernel
theorem dX5_special_44 : decode cX5_special 44 = .ok (.ldc 74, 2) := by decide +kernel
theorem dX5_special_46 : decode cX5_special 46 = .ok (.invokespecial 51, 3) := by decide +kernel
theorem dX5_special_49 : decode cX5_special 49 = .ok (.athrow, 1) := by decide +kernel
theorem dX5_special_50 : decode cX5_special 50 = .ok (.aload 4, 2) := by decide +kernel
theorem dX5_special_52 : decode cX5_special 52 = .ok (.getfield 76, 3) := by decide +kernel
theorem dX5_special_55 : decode cX5_special 55 = .ok (.iload_n 1, 1) := by decide +kernel
theorem dX5_special_56 : decode cX5_special 56 = .ok (.invokestatic 70, 3) := by decide +kernel
theorem dX5_special_59 : decode cX5_special 59 = .ok (.ifCond .ne 7, 3) := by decide +kernel
theorem dX5_special_62 : decode cX5_special 62 = .ok (.iconst 1, 1) := by decide +kernel
theorem dX5_special_63 : decode cX5_special 63 = .ok (.goto 4, 3) := by decide +kernel
theorem dX5_special_66 : decode cX5_special 66 = .ok (.iconst 0, 1) := by decide +kernel
theorem dX5_special_67 : decode cX5_special 67 = .ok (.istore 5, 2) := by decide +kernel
theorem dX5_special_69 : decode cX5_special 69 = .ok (.aload 4, 2) := by decide +kernel
theorem dX5_special_71 : decode cX5_special 71 = .ok (.dup, 1) := by decide +kernel
theorem dX5_special_72 : decode cX5_special 72 = .ok (.getfield 76, 3) := by decide +kernel
theorem dX5_special_75 : decode cX5_special 75 = .ok (.iconst 1, 1) := by decide +kernel
theorem dX5_special_76 : decode cX5_special 76 = .ok (.iload_n 1, 1) := by decide +kernel
theorem dX5_special_77 : decode cX5_special 77 = .ok (.ishl, 1) := by decide +kernel
theorem dX5_special_78 : decode cX5_special 78 = .ok (.ior, 1) := by decide +kernel
theorem dX5_special_79 : decode cX5_special 79 = .ok (.putfield 76, 3) := by decide +kernel
theorem dX5_special_82 : decode cX5_special 82 = .ok (.iload 5, 2) := by decide +kernel
theorem dX5_special_84 : decode cX5_special 84 = .ok (.ireturn, 1) := by decide +kernel
theorem dX5_standard_0 : decode cX5_standard 0 = .ok (.iload_n 1, 1) := by decide +kernel
theorem dX5_standard_1 : decode cX5_standard 1 = .ok (.iconst 1, 1) := by decide +kernel
theorem dX5_standard_2 : decode cX5_standard 2 = .ok (.sipush 255, 3) := by decide +kernel
theorem dX5_standard_5 : decode cX5_standard 5 = .ok (.invokestatic 39, 3) := by decide +kernel
theorem dX5_standard_8 : decode cX5_standard 8 = .ok (.iload_n 2, 1) := by decide +kernel
theorem dX5_standard_9 : decode cX5_standard 9 = .ok (.iconst 0, 1) := by decide +kernel
theorem dX5_standard_10 : decode cX5_standard 10 = .ok (.sipush 5000, 3) := by decide +kernel
theorem dX5_standard_13 : decode cX5_standard 13 = .ok (.invokestatic 39, 3) := by decide +kernel
theorem dX5_standard_16 : decode cX5_standard 16 = .ok (.aload_n 0, 1) := by decide +kernel
theorem dX5_standard_17 : decode cX5_standard 17 = .ok (.getfield 79, 3) := by decide +kernel
theorem dX5_standard_20 : decode cX5_standard 20 = .ok (.ifCond .lt 15, 3) := by decide +kernel
theorem dX5_standard_23 : decode cX5_standard 23 = .ok (.aload_n 0, 1) := by decide +kernel
theorem dX5_standard_24 : decode cX5_standard 24 = .ok (.getfield 79, 3) := by decide +kernel
theorem dX5_standard_27 : decode cX5_standard 27 = .ok (.aload_n 0, 1) := by decide +kernel
theorem dX5_standard_28 : decode cX5_standard 28 = .ok (.getfield 17, 3) := by decide +kernel
theorem dX5_standard_31 : decode cX5_standard 31 = .ok (.arraylength, 1) := by decide +kernel
theorem dX5_standard_32 : decode cX5_standard 32 = .ok (.if_icmp .lt 13, 3) := by decide +kernel
theorem dX5_standard_35 : decode cX5_standard 35 = .ok (.new 47, 3) := by decide +kernel
theorem dX5_standard_38 : decode cX5_standard 38 = .ok (.dup, 1) := by decide +kernel
theorem dX5_standard_39 : decode cX5_standard 39 = .ok (.ldc 82, 2) := by decide +kernel
theorem dX5_standard_41 : decode cX5_standard 41 = .ok (.invokespecial 51, 3) := by decide +kernel
theorem dX5_standard_44 : decode cX5_standard 44 = .ok (.athrow, 1) := by decide +kernel
theorem dX5_standard_45 : decode cX5_standard 45 = .ok (.aload_n 0, 1) := by decide +kernel
theorem dX5_standard_46 : decode cX5_standard 46 = .ok (.getfield 17, 3) := by decide +kernel
theorem dX5_standard_49 : decode cX5_standard 49 = .ok (.aload_n 0, 1) := by decide +kernel
theorem dX5_standard_50 : decode cX5_standard 50 = .ok (.getfield 79, 3) := by decide +kernel
theorem dX5_standard_53 : decode cX5_standard 53 = .ok (.new 15, 3) := by decide +kernel
theorem dX5_standard_56 : decode cX5_standard 56 = .ok (.dup, 1) := by decide +kernel
theorem dX5_standard_57 : decode cX5_standard 57 = .ok (.iload_n 1, 1) := by decide +kernel
theorem dX5_standard_58 : decode cX5_standard 58 = .ok (.iload_n 2, 1) := by decide +kernel
theorem dX5_standard_59 : decode cX5_standard 59 = .ok (.invokespecial 84, 3) := by decide +kernel
theorem dX5_standard_62 : decode cX5_standard 62 = .ok (.aastore, 1) := by decide +kernel
theorem dX5_standard_63 : decode cX5_standard 63 = .ok (.aload_n 0, 1) := by decide +kernel
theorem dX5_standard_64 : decode cX5_standard 64 = .ok (.dup, 1) := by decide +kernel
theorem dX5_standard_65 : decode cX5_standard 65 = .ok (.getfield 79, 3) := by decide +kernel
theorem dX5_standard_68 : decode cX5_standard 68 = .ok (.dup_x1, 1) := by decide +kernel
theorem dX5_standard_69 : decode cX5_standard 69 = .ok (.iconst 1, 1) := by decide +kernel
theorem dX5_standard_70 : decode cX5_standard 70 = .ok (.iadd, 1) := by decide +kernel
theorem dX5_standard_71 : decode cX5_standard 71 = .ok (.putfield 79, 3) := by decide +kernel
theorem dX5_standard_74 : decode cX5_standard 74 = .ok (.ireturn, 1) := by decide +kernel
theorem dX5_withdraw_0 : decode cX5_withdraw 0 = .ok (.aload_n 0, 1) := by decide +kernel
theorem dX5_withdraw_1 : decode cX5_withdraw 1 = .ok (.iload_n 1, 1) := by decide +kernel
theorem dX5_withdraw_2 : decode cX5_withdraw 2 = .ok (.invokevirtual 87, 3) := by decide +kernel
theorem dX5_withdraw_5 : decode cX5_withdraw 5 = .ok (.astore_n 3, 1) := by decide +kernel
theorem dX5_withdraw_6 : decode cX5_withdraw 6 = .ok (.iload_n 2, 1) := by decide +kernel
theorem dX5_withdraw_7 : decode cX5_withdraw 7 = .ok (.aload_n 0, 1) := by decide +kernel
theorem dX5_withdraw_8 : decode cX5_withdraw 8 = .ok (.getfield 91, 3) := by decide +kernel
theorem dX5_withdraw_11 : decode cX5_withdraw 11 = .ok (.sipush 5000, 3) := by decide +kernel
theorem dX5_withdraw_14 : decode cX5_withdraw 14 = .ok (.invokestatic 39, 3) := by decide +kernel
theorem dX5_withdraw_17 : decode cX5_withdraw 17 = .ok (.aload_n 3, 1) := by decide +kernel
theorem dX5_withdraw_18 : decode cX5_withdraw 18 = .ok (.getfield 94, 3) := by decide +kernel
theorem dX5_withdraw_21 : decode cX5_withdraw 21 = .ok (.istore 4, 2) := by decide +kernel
theorem dX5_withdraw_23 : decode cX5_withdraw 23 = .ok (.aload_n 3, 1) := by decide +kernel
theorem dX5_withdraw_24 : decode cX5_withdraw 24 = .ok (.iload_n 2, 1) := by decide +kernel
theorem dX5_withdraw_25 : decode cX5_withdraw 25 = .ok (.putfield 94, 3) := by decide +kernel
theorem dX5_withdraw_28 : decode cX5_withdraw 28 = .ok (.iload 4, 2) := by decide +kernel
theorem dX5_withdraw_30 : decode cX5_withdraw 30 = .ok (.ireturn, 1) := by decide +kernel
theorem dX5_restrict_0 : decode cX5_restrict 0 = .ok (.aload_n 0, 1) := by decide +kernel
theorem dX5_restrict_1 : decode cX5_restrict 1 = .ok (.iload_n 1, 1) := by decide +kernel
theorem dX5_restrict_2 : decode cX5_restrict 2 = .ok (.invokevirtual 87, 3) := by decide +kernel
theorem dX5_restrict_5 : decode cX5_restrict 5 = .ok (.astore_n 3, 1) := by decide +kernel
theorem dX5_restrict_6 : decode cX5_restrict 6 = .ok (.iload_n 2, 1) := by decide +kernel
theorem dX5_restrict_7 : decode cX5_restrict 7 = .ok (.iconst 1, 1) := by decide +kernel
theorem dX5_restrict_8 : decode cX5_restrict 8 = .ok (.sipush 255, 3) := by decide +kernel
theorem dX5_restrict_11 : decode cX5_restrict 11 = .ok (.invokestatic 39, 3) := by decide +kernel
theorem dX5_restrict_14 : decode cX5_restrict 14 = .ok (.aload_n 3, 1) := by decide +kernel
theorem dX5_restrict_15 : decode cX5_restrict 15 = .ok (.dup, 1) := by decide +kernel
theorem dX5_restrict_16 : decode cX5_restrict 16 = .ok (.getfield 97, 3) := by decide +kernel
theorem dX5_restrict_19 : decode cX5_restrict 19 = .ok (.iload_n 2, 1) := by decide +kernel
theorem dX5_restrict_20 : decode cX5_restrict 20 = .ok (.iconst (-1), 1) := by decide +kernel
theorem dX5_restrict_21 : decode cX5_restrict 21 = .ok (.ixor, 1) := by decide +kernel
theorem dX5_restrict_22 : decode cX5_restrict 22 = .ok (.iand, 1) := by decide +kernel
theorem dX5_restrict_23 : decode cX5_restrict 23 = .ok (.putfield 97, 3) := by decide +kernel
theorem dX5_restrict_26 : decode cX5_restrict 26 = .ok (.aload_n 3, 1) := by decide +kernel
theorem dX5_restrict_27 : decode cX5_restrict 27 = .ok (.getfield 97, 3) := by decide +kernel
theorem dX5_restrict_30 : decode cX5_restrict 30 = .ok (.ireturn, 1) := by decide +kernel
theorem dX5_product_0 : decode cX5_product 0 = .ok (.iload_n 1, 1) := by decide +kernel
theorem dX5_product_1 : decode cX5_product 1 = .ok (.iconst 1, 1) := by decide +kernel
theorem dX5_product_2 : decode cX5_product 2 = .ok (.sipush 255, 3) := by decide +kernel
theorem dX5_product_5 : decode cX5_product 5 = .ok (.invokestatic 39, 3) := by decide +kernel
theorem dX5_product_8 : decode cX5_product 8 = .ok (.aload_n 0, 1) := by decide +kernel
theorem dX5_product_9 : decode cX5_product 9 = .ok (.getfield 100, 3) := by decide +kernel
theorem dX5_product_12 : decode cX5_product 12 = .ok (.ifCond .lt 15, 3) := by decide +kernel
theorem dX5_product_15 : decode cX5_product 15 = .ok (.aload_n 0, 1) := by decide +kernel
theorem dX5_product_16 : decode cX5_product 16 = .ok (.getfield 100, 3) := by decide +kernel
theorem dX5_product_19 : decode cX5_product 19 = .ok (.aload_n 0, 1) := by decide +kernel
theorem dX5_product_20 : decode cX5_product 20 = .ok (.getfield 23, 3) := by decide +kernel
theorem dX5_product_23 : decode cX5_product 23 = .ok (.arraylength, 1) := by decide +kernel
theorem dX5_product_24 : decode cX5_product 24 = .ok (.if_icmp .lt 13, 3) := by decide +kernel
theorem dX5_product_27 : decode cX5_product 27 = .ok (.new 47, 3) := by decide +kernel
theorem dX5_product_30 : decode cX5_product 30 = .ok (.dup, 1) := by decide +kernel
theorem dX5_product_31 : decode cX5_product 31 = .ok (.ldc 103, 2) := by decide +kernel
theorem dX5_product_33 : decode cX5_product 33 = .ok (.invokespecial 51, 3) := by decide +kernel
theorem dX5_product_36 : decode cX5_product 36 = .ok (.athrow, 1) := by decide +kernel
theorem dX5_product_37 : decode cX5_product 37 = .ok (.aload_n 0, 1) := by decide +kernel
theorem dX5_product_38 : decode cX5_product 38 = .ok (.getfield 23, 3) := by decide +kernel
theorem dX5_product_41 : decode cX5_product 41 = .ok (.aload_n 0, 1) := by decide +kernel
theorem dX5_product_42 : decode cX5_product 42 = .ok (.getfield 100, 3) := by decide +kernel
theorem dX5_product_45 : decode cX5_product 45 = .ok (.new 21, 3) := by decide +kernel
theorem dX5_product_48 : decode cX5_product 48 = .ok (.dup, 1) := by decide +kernel
theorem dX5_product_49 : decode cX5_product 49 = .ok (.iload_n 1, 1) := by decide +kernel
theorem dX5_product_50 : decode cX5_product 50 = .ok (.invokespecial 105, 3) := by decide +kernel
theorem dX5_product_53 : decode cX5_product 53 = .ok (.aastore, 1) := by decide +kernel
theorem dX5_product_54 : decode cX5_product 54 = .ok (.aload_n 0, 1) := by decide +kernel
theorem dX5_product_55 : decode cX5_product 55 = .ok (.dup, 1) := by decide +kernel
theorem dX5_product_56 : decode cX5_product 56 = .ok (.getfield 100, 3) := by decide +kernel
theorem dX5_product_59 : decode cX5_product 59 = .ok (.dup_x1, 1) := by decide +kernel
theorem dX5_product_60 : decode cX5_product 60 = .ok (.iconst 1, 1) := by decide +kernel
theorem dX5_product_61 : decode cX5_product 61 = .ok (.iadd, 1) := by decide +kernel
theorem dX5_product_62 : decode cX5_product 62 = .ok (.putfield 100, 3) := by decide +kernel
theorem dX5_product_65 : decode cX5_product 65 = .ok (.ireturn, 1) := by decide +kernel
theorem dX5_change_0 : decode cX5_change 0 = .ok (.aload_n 0, 1) := by decide +kernel
theorem dX5_change_1 : decode cX5_change 1 = .ok (.iload_n 1, 1) := by decide +kernel
theorem dX5_change_2 : decode cX5_change 2 = .ok (.invokevirtual 108, 3) := by decide +kernel
theorem dX5_change_5 : decode cX5_change 5 = .ok (.astore_n 3, 1) := by decide +kernel
theorem dX5_change_6 : decode cX5_change 6 = .ok (.iload_n 2, 1) := by decide +kernel
theorem dX5_change_7 : decode cX5_change 7 = .ok (.iconst 1, 1) := by decide +kernel
theorem dX5_change_8 : decode cX5_change 8 = .ok (.sipush 255, 3) := by decide +kernel
theorem dX5_change_11 : decode cX5_change 11 = .ok (.invokestatic 39, 3) := by decide +kernel
theorem dX5_change_14 : decode cX5_change 14 = .ok (.aload_n 3, 1) := by decide +kernel
theorem dX5_change_15 : decode cX5_change 15 = .ok (.getfield 112, 3) := by decide +kernel
theorem dX5_change_18 : decode cX5_change 18 = .ok (.iload_n 2, 1) := by decide +kernel
theorem dX5_change_19 : decode cX5_change 19 = .ok (.if_icmp .eq 12, 3) := by decide +kernel
theorem dX5_change_22 : decode cX5_change 22 = .ok (.aload_n 3, 1) := by decide +kernel
theorem dX5_change_23 : decode cX5_change 23 = .ok (.iload_n 2, 1) := by decide +kernel
theorem dX5_change_24 : decode cX5_change 24 = .ok (.putfield 112, 3) := by decide +kernel
theorem dX5_change_27 : decode cX5_change 27 = .ok (.aload_n 3, 1) := by decide +kernel
theorem dX5_change_28 : decode cX5_change 28 = .ok (.invokevirtual 115, 3) := by decide +kernel
theorem dX5_change_31 : decode cX5_change 31 = .ok (.aload_n 3, 1) := by decide +kernel
theorem dX5_change_32 : decode cX5_change 32 = .ok (.getfield 118, 3) := by decide +kernel
theorem dX5_change_35 : decode cX5_change 35 = .ok (.ireturn, 1) := by decide +kernel
theorem dX5_risk_0 : decode cX5_risk 0 = .ok (.aload_n 0, 1) := by decide +kernel
theorem dX5_risk_1 : decode cX5_risk 1 = .ok (.iload_n 1, 1) := by decide +kernel
theorem dX5_risk_2 : decode cX5_risk 2 = .ok (.invokevirtual 108, 3) := by decide +kernel
theorem dX5_risk_5 : decode cX5_risk 5 = .ok (.astore 5, 2) := by decide +kernel
theorem dX5_risk_7 : decode cX5_risk 7 = .ok (.iload_n 2, 1) := by decide +kernel
theorem dX5_risk_8 : decode cX5_risk 8 = .ok (.invokestatic 121, 3) := by decide +kernel
theorem dX5_risk_11 : decode cX5_risk 11 = .ok (.iload_n 3, 1) := by decide +kernel
theorem dX5_risk_12 : decode cX5_risk 12 = .ok (.iconst 0, 1) := by decide +kernel
theorem dX5_risk_13 : decode cX5_risk 13 = .ok (.bipush 9, 2) := by decide +kernel
theorem dX5_risk_15 : decode cX5_risk 15 = .ok (.invokestatic 39, 3) := by decide +kernel
theorem dX5_risk_18 : decode cX5_risk 18 = .ok (.iload 4, 2) := by decide +kernel
theorem dX5_risk_20 : decode cX5_risk 20 = .ok (.iconst 0, 1) := by decide +kernel
theorem dX5_risk_21 : decode cX5_risk 21 = .ok (.iload_n 3, 1) := by decide +kernel
theorem dX5_risk_22 : decode cX5_risk 22 = .ok (.invokestatic 39, 3) := by decide +kernel
theorem dX5_risk_25 : decode cX5_risk 25 = .ok (.iload_n 3, 1) := by decide +kernel
theorem dX5_risk_26 : decode cX5_risk 26 = .ok (.aload 5, 2) := by decide +kernel
theorem dX5_risk_28 : decode cX5_risk 28 = .ok (.getfield 124, 3) := by decide +kernel
theorem dX5_risk_31 : decode cX5_risk 31 = .ok (.iload_n 2, 1) := by decide +kernel
theorem dX5_risk_32 : decode cX5_risk 32 = .ok (.iaload, 1) := by decide +kernel
theorem dX5_risk_33 : decode cX5_risk 33 = .ok (.if_icmp .gt 15, 3) := by decide +kernel
theorem dX5_risk_36 : decode cX5_risk 36 = .ok (.iload 4, 2) := by decide +kernel
theorem dX5_risk_38 : decode cX5_risk 38 = .ok (.aload 5, 2) := by decide +kernel
theorem dX5_risk_40 : decode cX5_risk 40 = .ok (.getfield 128, 3) := by decide +kernel
theorem dX5_risk_43 : decode cX5_risk 43 = .ok (.iload_n 2, 1) := by decide +kernel
theorem dX5_risk_44 : decode cX5_risk 44 = .ok (.iaload, 1) := by decide +kernel
theorem dX5_risk_45 : decode cX5_risk 45 = .ok (.if_icmp .le 7, 3) := by decide +kernel
theorem dX5_risk_48 : decode cX5_risk 48 = .ok (.iconst 1, 1) := by decide +kernel
theorem dX5_risk_49 : decode cX5_risk 49 = .ok (.goto 4, 3) := by decide +kernel
theorem dX5_risk_52 : decode cX5_risk 52 = .ok (.iconst 0, 1) := by decide +kernel
theorem dX5_risk_53 : decode cX5_risk 53 = .ok (.istore 6, 2) := by decide +kernel
theorem dX5_risk_55 : decode cX5_risk 55 = .ok (.aload 5, 2) := by decide +kernel
theorem dX5_risk_57 : decode cX5_risk 57 = .ok (.getfield 124, 3) := by decide +kernel
theorem dX5_risk_60 : decode cX5_risk 60 = .ok (.iload_n 2, 1) := by decide +kernel
theorem dX5_risk_61 : decode cX5_risk 61 = .ok (.iload_n 3, 1) := by decide +kernel
theorem dX5_risk_62 : decode cX5_risk 62 = .ok (.iastore, 1) := by decide +kernel
theorem dX5_risk_63 : decode cX5_risk 63 = .ok (.aload 5, 2) := by decide +kernel
theorem dX5_risk_65 : decode cX5_risk 65 = .ok (.getfield 128, 3) := by decide +kernel
theorem dX5_risk_68 : decode cX5_risk 68 = .ok (.iload_n 2, 1) := by decide +kernel
theorem dX5_risk_69 : decode cX5_risk 69 = .ok (.iload 4, 2) := by decide +kernel
theorem dX5_risk_71 : decode cX5_risk 71 = .ok (.iastore, 1) := by decide +kernel
theorem dX5_risk_72 : decode cX5_risk 72 = .ok (.iload 6, 2) := by decide +kernel
theorem dX5_risk_74 : decode cX5_risk 74 = .ok (.ifCond .eq 8, 3) := by decide +kernel
theorem dX5_risk_77 : decode cX5_risk 77 = .ok (.aload 5, 2) := by decide +kernel
theorem dX5_risk_79 : decode cX5_risk 79 = .ok (.invokevirtual 115, 3) := by decide +kernel
theorem dX5_risk_82 : decode cX5_risk 82 = .ok (.aload 5, 2) := by decide +kernel
theorem dX5_risk_84 : decode cX5_risk 84 = .ok (.getfield 118, 3) := by decide +kernel
theorem dX5_risk_87 : decode cX5_risk 87 = .ok (.ireturn, 1) := by decide +kernel
theorem dX5_follow_0 : decode cX5_follow 0 = .ok (.aload_n 0, 1) := by decide +kernel
theorem dX5_follow_1 : decode cX5_follow 1 = .ok (.iload_n 1, 1) := by decide +kernel
theorem dX5_follow_2 : decode cX5_follow 2 = .ok (.invokevirtual 108, 3) := by decide +kernel
theorem dX5_follow_5 : decode cX5_follow 5 = .ok (.astore 4, 2) := by decide +kernel
theorem dX5_follow_7 : decode cX5_follow 7 = .ok (.aload_n 0, 1) := by decide +kernel
theorem dX5_follow_8 : decode cX5_follow 8 = .ok (.iload_n 2, 1) := by decide +kernel
theorem dX5_follow_9 : decode cX5_follow 9 = .ok (.invokevirtual 87, 3) := by decide +kernel
theorem dX5_follow_12 : decode cX5_follow 12 = .ok (.pop, 1) := by decide +kernel
theorem dX5_follow_13 : decode cX5_follow 13 = .ok (.iload_n 3, 1) := by decide +kernel
theorem dX5_follow_14 : decode cX5_follow 14 = .ok (.iconst 0, 1) := by decide +kernel
theorem dX5_follow_15 : decode cX5_follow 15 = .ok (.sipush 255, 3) := by decide +kernel
theorem dX5_follow_18 : decode cX5_follow 18 = .ok (.invokestatic 39, 3) := by decide +kernel
theorem dX5_follow_21 : decode cX5_follow 21 = .ok (.aload 4, 2) := by decide +kernel
theorem dX5_follow_23 : decode cX5_follow 23 = .ok (.getfield 131, 3) := by decide +kernel
theorem dX5_follow_26 : decode cX5_follow 26 = .ok (.iload_n 2, 1) := by decide +kernel
theorem dX5_follow_27 : decode cX5_follow 27 = .ok (.iaload, 1) := by decide +kernel
theorem dX5_follow_28 : decode cX5_follow 28 = .ok (.istore 5, 2) := by decide +kernel
theorem dX5_follow_30 : decode cX5_follow 30 = .ok (.aload 4, 2) := by decide +kernel
theorem dX5_follow_32 : decode cX5_follow 32 = .ok (.getfield 131, 3) := by decide +kernel
theorem dX5_follow_35 : decode cX5_follow 35 = .ok (.iload_n 2, 1) := by decide +kernel
theorem dX5_follow_36 : decode cX5_follow 36 = .ok (.iload_n 3, 1) := by decide +kernel
theorem dX5_follow_37 : decode cX5_follow 37 = .ok (.iastore, 1) := by decide +kernel
theorem dX5_follow_38 : decode cX5_follow 38 = .ok (.iload 5, 2) := by decide +kernel
theorem dX5_follow_40 : decode cX5_follow 40 = .ok (.ireturn, 1) := by decide +kernel
theorem dX5_prove_0 : decode cX5_prove 0 = .ok (.aload_n 0, 1) := by decide +kernel
theorem dX5_prove_1 : decode cX5_prove 1 = .ok (.iload_n 1, 1) := by decide +kernel
theorem dX5_prove_2 : decode cX5_prove 2 = .ok (.invokevirtual 108, 3) := by decide +kernel
theorem dX5_prove_5 : decode cX5_prove 5 = .ok (.astore_n 3, 1) := by decide +kernel
theorem dX5_prove_6 : decode cX5_prove 6 = .ok (.iload_n 2, 1) := by decide +kernel
theorem dX5_prove_7 : decode cX5_prove 7 = .ok (.iconst 1, 1) := by decide +kernel
theorem dX5_prove_8 : decode cX5_prove 8 = .ok (.sipush 255, 3) := by decide +kernel
theorem dX5_prove_11 : decode cX5_prove 11 = .ok (.invokestatic 39, 3) := by decide +kernel
theorem dX5_prove_14 : decode cX5_prove 14 = .ok (.aload_n 3, 1) := by decide +kernel
theorem dX5_prove_15 : decode cX5_prove 15 = .ok (.dup, 1) := by decide +kernel
theorem dX5_prove_16 : decode cX5_prove 16 = .ok (.getfield 134, 3) := by decide +kernel
theorem dX5_prove_19 : decode cX5_prove 19 = .ok (.iload_n 2, 1) := by decide +kernel
theorem dX5_prove_20 : decode cX5_prove 20 = .ok (.ior, 1) := by decide +kernel
theorem dX5_prove_21 : decode cX5_prove 21 = .ok (.putfield 134, 3) := by decide +kernel
theorem dX5_prove_24 : decode cX5_prove 24 = .ok (.aload_n 3, 1) := by decide +kernel
theorem dX5_prove_25 : decode cX5_prove 25 = .ok (.getfield 134, 3) := by decide +kernel
theorem dX5_prove_28 : decode cX5_prove 28 = .ok (.ireturn, 1) := by decide +kernel
theorem dX5_declare_0 : decode cX5_declare 0 = .ok (.aload_n 0, 1) := by decide +kernel
theorem dX5_declare_1 : decode cX5_declare 1 = .ok (.iload_n 1, 1) := by decide +kernel
theorem dX5_declare_2 : decode cX5_declare 2 = .ok (.invokevirtual 108, 3) := by decide +kernel
theorem dX5_declare_5 : decode cX5_declare 5 = .ok (.astore_n 2, 1) := by decide +kernel
theorem dX5_declare_6 : decode cX5_declare 6 = .ok (.aload_n 0, 1) := by decide +kernel
theorem dX5_declare_7 : decode cX5_declare 7 = .ok (.aload_n 2, 1) := by decide +kernel
theorem dX5_declare_8 : decode cX5_declare 8 = .ok (.invokevirtual 137, 3) := by decide +kernel
theorem dX5_declare_11 : decode cX5_declare 11 = .ok (.istore_n 3, 1) := by decide +kernel
theorem dX5_declare_12 : decode cX5_declare 12 = .ok (.iload_n 3, 1) := by decide +kernel
theorem dX5_declare_13 : decode cX5_declare 13 = .ok (.ifCond .eq 19, 3) := by decide +kernel
theorem dX5_declare_16 : decode cX5_declare 16 = .ok (.iload_n 3, 1) := by decide +kernel
theorem dX5_declare_17 : decode cX5_declare 17 = .ok (.bipush 6, 2) := by decide +kernel
theorem dX5_declare_19 : decode cX5_declare 19 = .ok (.if_icmp .eq 13, 3) := by decide +kernel
theorem dX5_declare_22 : decode cX5_declare 22 = .ok (.new 47, 3) := by decide +kernel
theorem dX5_declare_25 : decode cX5_declare 25 = .ok (.dup, 1) := by decide +kernel
theorem dX5_declare_26 : decode cX5_declare 26 = .ok (.ldc 141, 2) := by decide +kernel
theorem dX5_declare_28 : decode cX5_declare 28 = .ok (.invokespecial 51, 3) := by decide +kernel
theorem dX5_declare_31 : decode cX5_declare 31 = .ok (.athrow, 1) := by decide +kernel
theorem dX5_declare_32 : decode cX5_declare 32 = .ok (.aload_n 2, 1) := by decide +kernel
theorem dX5_declare_33 : decode cX5_declare 33 = .ok (.aload_n 0, 1) := by decide +kernel
theorem dX5_declare_34 : decode cX5_declare 34 = .ok (.getfield 91, 3) := by decide +kernel
theorem dX5_declare_37 : decode cX5_declare 37 = .ok (.putfield 143, 3) := by decide +kernel
theorem dX5_declare_40 : decode cX5_declare 40 = .ok (.aload_n 0, 1) := by decide +kernel
theorem dX5_declare_41 : decode cX5_declare 41 = .ok (.getfield 91, 3) := by decide +kernel
theorem dX5_declare_44 : decode cX5_declare 44 = .ok (.ireturn, 1) := by decide +kernel
theorem dX5_body_0 : decode cX5_body 0 = .ok (.iload_n 1, 1) := by decide +kernel
theorem dX5_body_1 : decode cX5_body 1 = .ok (.iconst 1, 1) := by decide +kernel
theorem dX5_body_2 : decode cX5_body 2 = .ok (.bipush 63, 2) := by decide +kernel
theorem dX5_body_4 : decode cX5_body 4 = .ok (.invokestatic 39, 3) := by decide +kernel
theorem dX5_body_7 : decode cX5_body 7 = .ok (.aload_n 0, 1) := by decide +kernel
theorem dX5_body_8 : decode cX5_body 8 = .ok (.getfield 146, 3) := by decide +kernel
theorem dX5_body_11 : decode cX5_body 11 = .ok (.ifCond .lt 15, 3) := by decide +kernel
theorem dX5_body_14 : decode cX5_body 14 = .ok (.aload_n 0, 1) := by decide +kernel
theorem dX5_body_15 : decode cX5_body 15 = .ok (.getfield 146, 3) := by decide +kernel
theorem dX5_body_18 : decode cX5_body 18 = .ok (.aload_n 0, 1) := by decide +kernel
theorem dX5_body_19 : decode cX5_body 19 = .ok (.getfield 29, 3) := by decide +kernel
theorem dX5_body_22 : decode cX5_body 22 = .ok (.arraylength, 1) := by decide +kernel
theorem dX5_body_23 : decode cX5_body 23 = .ok (.if_icmp .lt 13, 3) := by decide +kernel
theorem dX5_body_26 : decode cX5_body 26 = .ok (.new 47, 3) := by decide +kernel
theorem dX5_body_29 : decode cX5_body 29 = .ok (.dup, 1) := by decide +kernel
theorem dX5_body_30 : decode cX5_body 30 = .ok (.ldc 149, 2) := by decide +kernel
theorem dX5_body_32 : decode cX5_body 32 = .ok (.invokespecial 51, 3) := by decide +kernel
theorem dX5_body_35 : decode cX5_body 35 = .ok (.athrow, 1) := by decide +kernel
theorem dX5_body_36 : decode cX5_body 36 = .ok (.aload_n 0, 1) := by decide +kernel
theorem dX5_body_37 : decode cX5_body 37 = .ok (.getfield 29, 3) := by decide +kernel
theorem dX5_body_40 : decode cX5_body 40 = .ok (.aload_n 0, 1) := by decide +kernel
theorem dX5_body_41 : decode cX5_body 41 = .ok (.getfield 146, 3) := by decide +kernel
theorem dX5_body_44 : decode cX5_body 44 = .ok (.new 27, 3) := by decide +kernel
theorem dX5_body_47 : decode cX5_body 47 = .ok (.dup, 1) := by decide +kernel
theorem dX5_body_48 : decode cX5_body 48 = .ok (.aload_n 0, 1) := by decide +kernel
theorem dX5_body_49 : decode cX5_body 49 = .ok (.getfield 146, 3) := by decide +kernel
theorem dX5_body_52 : decode cX5_body 52 = .ok (.iload_n 1, 1) := by decide +kernel
theorem dX5_body_53 : decode cX5_body 53 = .ok (.invokespecial 151, 3) := by decide +kernel
theorem dX5_body_56 : decode cX5_body 56 = .ok (.aastore, 1) := by decide +kernel
theorem dX5_body_57 : decode cX5_body 57 = .ok (.aload_n 0, 1) := by decide +kernel
theorem dX5_body_58 : decode cX5_body 58 = .ok (.dup, 1) := by decide +kernel
theorem dX5_body_59 : decode cX5_body 59 = .ok (.getfield 146, 3) := by decide +kernel
theorem dX5_body_62 : decode cX5_body 62 = .ok (.dup_x1, 1) := by decide +kernel
theorem dX5_body_63 : decode cX5_body 63 = .ok (.iconst 1, 1) := by decide +kernel
theorem dX5_body_64 : decode cX5_body 64 = .ok (.iadd, 1) := by decide +kernel
theorem dX5_body_65 : decode cX5_body 65 = .ok (.putfield 146, 3) := by decide +kernel
theorem dX5_body_68 : decode cX5_body 68 = .ok (.ireturn, 1) := by decide +kernel
theorem dX5_suspend_0 : decode cX5_suspend 0 = .ok (.aload_n 0, 1) := by decide +kernel
theorem dX5_suspend_1 : decode cX5_suspend 1 = .ok (.iload_n 1, 1) := by decide +kernel
theorem dX5_suspend_2 : decode cX5_suspend 2 = .ok (.invokevirtual 152, 3) := by decide +kernel
theorem dX5_suspend_5 : decode cX5_suspend 5 = .ok (.astore_n 3, 1) := by decide +kernel
theorem dX5_suspend_6 : decode cX5_suspend 6 = .ok (.aload_n 3, 1) := by decide +kernel
theorem dX5_suspend_7 : decode cX5_suspend 7 = .ok (.invokevirtual 156, 3) := by decide +kernel
theorem dX5_suspend_10 : decode cX5_suspend 10 = .ok (.istore 4, 2) := by decide +kernel
theorem dX5_suspend_12 : decode cX5_suspend 12 = .ok (.iload_n 2, 1) := by decide +kernel
theorem dX5_suspend_13 : decode cX5_suspend 13 = .ok (.ifCond .ne 11, 3) := by decide +kernel
theorem dX5_suspend_16 : decode cX5_suspend 16 = .ok (.aload_n 3, 1) := by decide +kernel
theorem dX5_suspend_17 : decode cX5_suspend 17 = .ok (.iconst (-1), 1) := by decide +kernel
theorem dX5_suspend_18 : decode cX5_suspend 18 = .ok (.putfield 160, 3) := by decide +kernel
theorem dX5_suspend_21 : decode cX5_suspend 21 = .ok (.goto 16, 3) := by decide +kernel
theorem dX5_suspend_24 : decode cX5_suspend 24 = .ok (.iload 4, 2) := by decide +kernel
theorem dX5_suspend_26 : decode cX5_suspend 26 = .ok (.ifCond .ne 11, 3) := by decide +kernel
theorem dX5_suspend_29 : decode cX5_suspend 29 = .ok (.aload_n 3, 1) := by decide +kernel
theorem dX5_suspend_30 : decode cX5_suspend 30 = .ok (.aload_n 0, 1) := by decide +kernel
theorem dX5_suspend_31 : decode cX5_suspend 31 = .ok (.getfield 91, 3) := by decide +kernel
theorem dX5_suspend_34 : decode cX5_suspend 34 = .ok (.putfield 160, 3) := by decide +kernel
theorem dX5_suspend_37 : decode cX5_suspend 37 = .ok (.iload 4, 2) := by decide +kernel
theorem dX5_suspend_39 : decode cX5_suspend 39 = .ok (.ireturn, 1) := by decide +kernel
theorem dX5_certify_0 : decode cX5_certify 0 = .ok (.aload_n 0, 1) := by decide +kernel
theorem dX5_certify_1 : decode cX5_certify 1 = .ok (.iload_n 1, 1) := by decide +kernel
theorem dX5_certify_2 : decode cX5_certify 2 = .ok (.invokevirtual 152, 3) := by decide +kernel
theorem dX5_certify_5 : decode cX5_certify 5 = .ok (.astore 4, 2) := by decide +kernel
theorem dX5_certify_7 : decode cX5_certify 7 = .ok (.aload_n 0, 1) := by decide +kernel
theorem dX5_certify_8 : decode cX5_certify 8 = .ok (.iload_n 2, 1) := by decide +kernel
theorem dX5_certify_9 : decode cX5_certify 9 = .ok (.invokevirtual 108, 3) := by decide +kernel
theorem dX5_certify_12 : decode cX5_certify 12 = .ok (.astore 5, 2) := by decide +kernel
theorem dX5_certify_14 : decode cX5_certify 14 = .ok (.iload_n 3, 1) := by decide +kernel
theorem dX5_certify_15 : decode cX5_certify 15 = .ok (.iconst 1, 1) := by decide +kernel
theorem dX5_certify_16 : decode cX5_certify 16 = .ok (.sipush 1000, 3) := by decide +kernel
theorem dX5_certify_19 : decode cX5_certify 19 = .ok (.invokestatic 39, 3) := by decide +kernel
theorem dX5_certify_22 : decode cX5_certify 22 = .ok (.aload_n 0, 1) := by decide +kernel
theorem dX5_certify_23 : decode cX5_certify 23 = .ok (.aload 4, 2) := by decide +kernel
theorem dX5_certify_25 : decode cX5_certify 25 = .ok (.aload 5, 2) := by decide +kernel
theorem dX5_certify_27 : decode cX5_certify 27 = .ok (.invokevirtual 163, 3) := by decide +kernel
theorem dX5_certify_30 : decode cX5_certify 30 = .ok (.aload_n 0, 1) := by decide +kernel
theorem dX5_certify_31 : decode cX5_certify 31 = .ok (.aload 5, 2) := by decide +kernel
theorem dX5_certify_33 : decode cX5_certify 33 = .ok (.invokevirtual 137, 3) := by decide +kernel
theorem dX5_certify_36 : decode cX5_certify 36 = .ok (.istore 6, 2) := by decide +kernel
theorem dX5_certify_38 : decode cX5_certify 38 = .ok (.iload 6, 2) := by decide +kernel
theorem dX5_certify_40 : decode cX5_certify 40 = .ok (.iconst 1, 1) := by decide +kernel
theorem dX5_certify_41 : decode cX5_certify 41 = .ok (.if_icmp .eq 15, 3) := by decide +kernel
theorem dX5_certify_44 : decode cX5_certify 44 = .ok (.iload 6, 2) := by decide +kernel
theorem dX5_certify_46 : decode cX5_certify 46 = .ok (.iconst 2, 1) := by decide +kernel
theorem dX5_certify_47 : decode cX5_certify 47 = .ok (.if_icmp .eq 9, 3) := by decide +kernel
theorem dX5_certify_50 : decode cX5_certify 50 = .ok (.iload 6, 2) := by decide +kernel
theorem dX5_certify_52 : decode cX5_certify 52 = .ok (.iconst 3, 1) := by decide +kernel
theorem dX5_certify_53 : decode cX5_certify 53 = .ok (.if_icmp .ne 13, 3) := by decide +kernel
theorem dX5_certify_56 : decode cX5_certify 56 = .ok (.new 47, 3) := by decide +kernel
theorem dX5_certify_59 : decode cX5_certify 59 = .ok (.dup, 1) := by decide +kernel
theorem dX5_certify_60 : decode cX5_certify 60 = .ok (.ldc 167, 2) := by decide +kernel
theorem dX5_certify_62 : decode cX5_certify 62 = .ok (.invokespecial 51, 3) := by decide +kernel
theorem dX5_certify_65 : decode cX5_certify 65 = .ok (.athrow, 1) := by decide +kernel
theorem dX5_certify_66 : decode cX5_certify 66 = .ok (.aload 5, 2) := by decide +kernel
theorem dX5_certify_68 : decode cX5_certify 68 = .ok (.aload 4, 2) := by decide +kernel
theorem dX5_certify_70 : decode cX5_certify 70 = .ok (.putfield 169, 3) := by decide +kernel
theorem dX5_certify_73 : decode cX5_certify 73 = .ok (.aload 5, 2) := by decide +kernel
theorem dX5_certify_75 : decode cX5_certify 75 = .ok (.aload_n 0, 1) := by decide +kernel
theorem dX5_certify_76 : decode cX5_certify 76 = .ok (.getfield 91, 3) := by decide +kernel
theorem dX5_certify_79 : decode cX5_certify 79 = .ok (.iload_n 3, 1) := by decide +kernel
theorem dX5_certify_80 : decode cX5_certify 80 = .ok (.iadd, 1) := by decide +kernel
theorem dX5_certify_81 : decode cX5_certify 81 = .ok (.putfield 173, 3) := by decide +kernel
theorem dX5_certify_84 : decode cX5_certify 84 = .ok (.aload 5, 2) := by decide +kernel
theorem dX5_certify_86 : decode cX5_certify 86 = .ok (.getfield 173, 3) := by decide +kernel
theorem dX5_certify_89 : decode cX5_certify 89 = .ok (.ireturn, 1) := by decide +kernel
theorem dX5_transfer_0 : decode cX5_transfer 0 = .ok (.aload_n 0, 1) := by decide +kernel
theorem dX5_transfer_1 : decode cX5_transfer 1 = .ok (.iload_n 1, 1) := by decide +kernel
theorem dX5_transfer_2 : decode cX5_transfer 2 = .ok (.invokevirtual 108, 3) := by decide +kernel
theorem dX5_transfer_5 : decode cX5_transfer 5 = .ok (.astore_n 3, 1) := by decide +kernel
theorem dX5_transfer_6 : decode cX5_transfer 6 = .ok (.aload_n 0, 1) := by decide +kernel
theorem dX5_transfer_7 : decode cX5_transfer 7 = .ok (.iload_n 2, 1) := by decide +kernel
theorem dX5_transfer_8 : decode cX5_transfer 8 = .ok (.invokevirtual 152, 3) := by decide +kernel
theorem dX5_transfer_11 : decode cX5_transfer 11 = .ok (.astore 4, 2) := by decide +kernel
theorem dX5_transfer_13 : decode cX5_transfer 13 = .ok (.aload_n 3, 1) := by decide +kernel
theorem dX5_transfer_14 : decode cX5_transfer 14 = .ok (.getfield 169, 3) := by decide +kernel
theorem dX5_transfer_17 : decode cX5_transfer 17 = .ok (.astore 5, 2) := by decide +kernel
theorem dX5_transfer_19 : decode cX5_transfer 19 = .ok (.aload 5, 2) := by decide +kernel
theorem dX5_transfer_21 : decode cX5_transfer 21 = .ok (.ifnull 10, 3) := by decide +kernel
theorem dX5_transfer_24 : decode cX5_transfer 24 = .ok (.aload 5, 2) := by decide +kernel
theorem dX5_transfer_26 : decode cX5_transfer 26 = .ok (.aload 4, 2) := by decide +kernel
theorem dX5_transfer_28 : decode cX5_transfer 28 = .ok (.if_acmp .ne 13, 3) := by decide +kernel
theorem dX5_transfer_31 : decode cX5_transfer 31 = .ok (.new 47, 3) := by decide +kernel
theorem dX5_transfer_34 : decode cX5_transfer 34 = .ok (.dup, 1) := by decide +kernel
theorem dX5_transfer_35 : decode cX5_transfer 35 = .ok (.ldc 176, 2) := by decide +kernel
theorem dX5_transfer_37 : decode cX5_transfer 37 = .ok (.invokespecial 51, 3) := by decide +kernel
theorem dX5_transfer_40 : decode cX5_transfer 40 = .ok (.athrow, 1) := by decide +kernel
theorem dX5_transfer_41 : decode cX5_transfer 41 = .ok (.aload_n 0, 1) := by decide +kernel
theorem dX5_transfer_42 : decode cX5_transfer 42 = .ok (.aload 4, 2) := by decide +kernel
theorem dX5_transfer_44 : decode cX5_transfer 44 = .ok (.aload_n 3, 1) := by decide +kernel
theorem dX5_transfer_45 : decode cX5_transfer 45 = .ok (.invokevirtual 163, 3) := by decide +kernel
theorem dX5_transfer_48 : decode cX5_transfer 48 = .ok (.aload_n 3, 1) := by decide +kernel
theorem dX5_transfer_49 : decode cX5_transfer 49 = .ok (.aload 4, 2) := by decide +kernel
theorem dX5_transfer_51 : decode cX5_transfer 51 = .ok (.putfield 169, 3) := by decide +kernel
theorem dX5_transfer_54 : decode cX5_transfer 54 = .ok (.aload 5, 2) := by decide +kernel
theorem dX5_transfer_56 : decode cX5_transfer 56 = .ok (.getfield 178, 3) := by decide +kernel
theorem dX5_transfer_59 : decode cX5_transfer 59 = .ok (.ireturn, 1) := by decide +kernel
theorem dX5_visit_0 : decode cX5_visit 0 = .ok (.aload_n 0, 1) := by decide +kernel
theorem dX5_visit_1 : decode cX5_visit 1 = .ok (.iload_n 1, 1) := by decide +kernel
theorem dX5_visit_2 : decode cX5_visit 2 = .ok (.invokevirtual 108, 3) := by decide +kernel
theorem dX5_visit_5 : decode cX5_visit 5 = .ok (.astore_n 3, 1) := by decide +kernel
theorem dX5_visit_6 : decode cX5_visit 6 = .ok (.iload_n 2, 1) := by decide +kernel
theorem dX5_visit_7 : decode cX5_visit 7 = .ok (.ifCond .eq 13, 3) := by decide +kernel
theorem dX5_visit_10 : decode cX5_visit 10 = .ok (.aload_n 3, 1) := by decide +kernel
theorem dX5_visit_11 : decode cX5_visit 11 = .ok (.aload_n 0, 1) := by decide +kernel
theorem dX5_visit_12 : decode cX5_visit 12 = .ok (.getfield 91, 3) := by decide +kernel
theorem dX5_visit_15 : decode cX5_visit 15 = .ok (.putfield 181, 3) := by decide +kernel
theorem dX5_visit_18 : decode cX5_visit 18 = .ok (.iconst 0, 1) := by decide +kernel
theorem dX5_visit_19 : decode cX5_visit 19 = .ok (.ireturn, 1) := by decide +kernel
theorem dX5_visit_20 : decode cX5_visit 20 = .ok (.aload_n 3, 1) := by decide +kernel
theorem dX5_visit_21 : decode cX5_visit 21 = .ok (.getfield 169, 3) := by decide +kernel
theorem dX5_visit_24 : decode cX5_visit 24 = .ok (.ifnull 7, 3) := by decide +kernel
theorem dX5_visit_27 : decode cX5_visit 27 = .ok (.iconst 1, 1) := by decide +kernel
theorem dX5_visit_28 : decode cX5_visit 28 = .ok (.goto 4, 3) := by decide +kernel
theorem dX5_visit_31 : decode cX5_visit 31 = .ok (.iconst 0, 1) := by decide +kernel
theorem dX5_visit_32 : decode cX5_visit 32 = .ok (.istore 4, 2) := by decide +kernel
theorem dX5_visit_34 : decode cX5_visit 34 = .ok (.aload_n 3, 1) := by decide +kernel
theorem dX5_visit_35 : decode cX5_visit 35 = .ok (.invokevirtual 184, 3) := by decide +kernel
theorem dX5_visit_38 : decode cX5_visit 38 = .ok (.iload 4, 2) := by decide +kernel
theorem dX5_visit_40 : decode cX5_visit 40 = .ok (.ireturn, 1) := by decide +kernel
theorem dX5_place_0 : decode cX5_place 0 = .ok (.aload_n 0, 1) := by decide +kernel
theorem dX5_place_1 : decode cX5_place 1 = .ok (.iload_n 1, 1) := by decide +kernel
theorem dX5_place_2 : decode cX5_place 2 = .ok (.invokevirtual 108, 3) := by decide +kernel
theorem dX5_place_5 : decode cX5_place 5 = .ok (.astore_n 3, 1) := by decide +kernel
theorem dX5_place_6 : decode cX5_place 6 = .ok (.iload_n 2, 1) := by decide +kernel
theorem dX5_place_7 : decode cX5_place 7 = .ok (.iconst 1, 1) := by decide +kernel
theorem dX5_place_8 : decode cX5_place 8 = .ok (.sipush 10000, 3) := by decide +kernel
theorem dX5_place_11 : decode cX5_place 11 = .ok (.invokestatic 39, 3) := by decide +kernel
theorem dX5_place_14 : decode cX5_place 14 = .ok (.aload_n 0, 1) := by decide +kernel
theorem dX5_place_15 : decode cX5_place 15 = .ok (.aload_n 3, 1) := by decide +kernel
theorem dX5_place_16 : decode cX5_place 16 = .ok (.invokevirtual 137, 3) := by decide +kernel
theorem dX5_place_19 : decode cX5_place 19 = .ok (.ifCond .eq 13, 3) := by decide +kernel
theorem dX5_place_22 : decode cX5_place 22 = .ok (.new 47, 3) := by decide +kernel
theorem dX5_place_25 : decode cX5_place 25 = .ok (.dup, 1) := by decide +kernel
theorem dX5_place_26 : decode cX5_place 26 = .ok (.ldc 187, 2) := by decide +kernel
theorem dX5_place_28 : decode cX5_place 28 = .ok (.invokespecial 51, 3) := by decide +kernel
theorem dX5_place_31 : decode cX5_place 31 = .ok (.athrow, 1) := by decide +kernel
theorem dX5_place_32 : decode cX5_place 32 = .ok (.aload_n 0, 1) := by decide +kernel
theorem dX5_place_33 : decode cX5_place 33 = .ok (.iload_n 1, 1) := by decide +kernel
theorem dX5_place_34 : decode cX5_place 34 = .ok (.aload_n 3, 1) := by decide +kernel
theorem dX5_place_35 : decode cX5_place 35 = .ok (.iload_n 2, 1) := by decide +kernel
theorem dX5_place_36 : decode cX5_place 36 = .ok (.invokevirtual 189, 3) := by decide +kernel
theorem dX5_place_39 : decode cX5_place 39 = .ok (.ireturn, 1) := by decide +kernel
theorem dX5_post_0 : decode cX5_post 0 = .ok (.aload_n 0, 1) := by decide +kernel
theorem dX5_post_1 : decode cX5_post 1 = .ok (.iload_n 1, 1) := by decide +kernel
theorem dX5_post_2 : decode cX5_post 2 = .ok (.invokevirtual 108, 3) := by decide +kernel
theorem dX5_post_5 : decode cX5_post 5 = .ok (.astore_n 3, 1) := by decide +kernel
theorem dX5_post_6 : decode cX5_post 6 = .ok (.iload_n 2, 1) := by decide +kernel
theorem dX5_post_7 : decode cX5_post 7 = .ok (.iconst 1, 1) := by decide +kernel
theorem dX5_post_8 : decode cX5_post 8 = .ok (.sipush 10000, 3) := by decide +kernel
theorem dX5_post_11 : decode cX5_post 11 = .ok (.invokestatic 39, 3) := by decide +kernel
theorem dX5_post_14 : decode cX5_post 14 = .ok (.aload_n 0, 1) := by decide +kernel
theorem dX5_post_15 : decode cX5_post 15 = .ok (.iload_n 1, 1) := by decide +kernel
theorem dX5_post_16 : decode cX5_post 16 = .ok (.aload_n 3, 1) := by decide +kernel
theorem dX5_post_17 : decode cX5_post 17 = .ok (.iload_n 2, 1) := by decide +kernel
theorem dX5_post_18 : decode cX5_post 18 = .ok (.invokevirtual 189, 3) := by decide +kernel
theorem dX5_post_21 : decode cX5_post 21 = .ok (.ireturn, 1) := by decide +kernel
theorem dX5_sample_0 : decode cX5_sample 0 = .ok (.aload_n 0, 1) := by decide +kernel
theorem dX5_sample_1 : decode cX5_sample 1 = .ok (.iload_n 1, 1) := by decide +kernel
theorem dX5_sample_2 : decode cX5_sample 2 = .ok (.invokevirtual 193, 3) := by decide +kernel
theorem dX5_sample_5 : decode cX5_sample 5 = .ok (.astore 5, 2) := by decide +kernel
theorem dX5_sample_7 : decode cX5_sample 7 = .ok (.iload_n 2, 1) := by decide +kernel
theorem dX5_sample_8 : decode cX5_sample 8 = .ok (.iconst 0, 1) := by decide +kernel
theorem dX5_sample_9 : decode cX5_sample 9 = .ok (.ldc 197, 2) := by decide +kernel
theorem dX5_sample_11 : decode cX5_sample 11 = .ok (.invokestatic 39, 3) := by decide +kernel
theorem dX5_sample_14 : decode cX5_sample 14 = .ok (.iload_n 3, 1) := by decide +kernel
theorem dX5_sample_15 : decode cX5_sample 15 = .ok (.iconst 0, 1) := by decide +kernel
theorem dX5_sample_16 : decode cX5_sample 16 = .ok (.ldc 197, 2) := by decide +kernel
theorem dX5_sample_18 : decode cX5_sample 18 = .ok (.invokestatic 39, 3) := by decide +kernel
theorem dX5_sample_21 : decode cX5_sample 21 = .ok (.iload 4, 2) := by decide +kernel
theorem dX5_sample_23 : decode cX5_sample 23 = .ok (.iconst 0, 1) := by decide +kernel
theorem dX5_sample_24 : decode cX5_sample 24 = .ok (.sipush 10000, 3) := by decide +kernel
theorem dX5_sample_27 : decode cX5_sample 27 = .ok (.invokestatic 39, 3) := by decide +kernel
theorem dX5_sample_30 : decode cX5_sample 30 = .ok (.iload_n 2, 1) := by decide +kernel
theorem dX5_sample_31 : decode cX5_sample 31 = .ok (.iload 4, 2) := by decide +kernel
theorem dX5_sample_33 : decode cX5_sample 33 = .ok (.isub, 1) := by decide +kernel
theorem dX5_sample_34 : decode cX5_sample 34 = .ok (.iload_n 3, 1) := by decide +kernel
theorem dX5_sample_35 : decode cX5_sample 35 = .ok (.if_icmp .le 12, 3) := by decide +kernel
theorem dX5_sample_38 : decode cX5_sample 38 = .ok (.aload 5, 2) := by decide +kernel
theorem dX5_sample_40 : decode cX5_sample 40 = .ok (.iconst 2, 1) := by decide +kernel
theorem dX5_sample_41 : decode cX5_sample 41 = .ok (.putfield 198, 3) := by decide +kernel
theorem dX5_sample_44 : decode cX5_sample 44 = .ok (.goto 26, 3) := by decide +kernel
theorem dX5_sample_47 : decode cX5_sample 47 = .ok (.iload_n 2, 1) := by decide +kernel
theorem dX5_sample_48 : decode cX5_sample 48 = .ok (.iload 4, 2) := by decide +kernel
theorem dX5_sample_50 : decode cX5_sample 50 = .ok (.iadd, 1) := by decide +kernel
theorem dX5_sample_51 : decode cX5_sample 51 = .ok (.iload_n 3, 1) := by decide +kernel
theorem dX5_sample_52 : decode cX5_sample 52 = .ok (.if_icmp .gt 12, 3) := by decide +kernel
theorem dX5_sample_55 : decode cX5_sample 55 = .ok (.aload 5, 2) := by decide +kernel
theorem dX5_sample_57 : decode cX5_sample 57 = .ok (.iconst 0, 1) := by decide +kernel
theorem dX5_sample_58 : decode cX5_sample 58 = .ok (.putfield 198, 3) := by decide +kernel
theorem dX5_sample_61 : decode cX5_sample 61 = .ok (.goto 9, 3) := by decide +kernel
theorem dX5_sample_64 : decode cX5_sample 64 = .ok (.aload 5, 2) := by decide +kernel
theorem dX5_sample_66 : decode cX5_sample 66 = .ok (.iconst 1, 1) := by decide +kernel
theorem dX5_sample_67 : decode cX5_sample 67 = .ok (.putfield 198, 3) := by decide +kernel
theorem dX5_sample_70 : decode cX5_sample 70 = .ok (.aload 5, 2) := by decide +kernel
theorem dX5_sample_72 : decode cX5_sample 72 = .ok (.getfield 198, 3) := by decide +kernel
theorem dX5_sample_75 : decode cX5_sample 75 = .ok (.ireturn, 1) := by decide +kernel
theorem dX5_event_0 : decode cX5_event 0 = .ok (.aload_n 0, 1) := by decide +kernel
theorem dX5_event_1 : decode cX5_event 1 = .ok (.iload_n 1, 1) := by decide +kernel
theorem dX5_event_2 : decode cX5_event 2 = .ok (.invokevirtual 193, 3) := by decide +kernel
theorem dX5_event_5 : decode cX5_event 5 = .ok (.astore 4, 2) := by decide +kernel
theorem dX5_event_7 : decode cX5_event 7 = .ok (.iload_n 2, 1) := by decide +kernel
theorem dX5_event_8 : decode cX5_event 8 = .ok (.iconst 0, 1) := by decide +kernel
theorem dX5_event_9 : decode cX5_event 9 = .ok (.iconst 3, 1) := by decide +kernel
theorem dX5_event_10 : decode cX5_event 10 = .ok (.invokestatic 39, 3) := by decide +kernel
theorem dX5_event_13 : decode cX5_event 13 = .ok (.iload_n 3, 1) := by decide +kernel
theorem dX5_event_14 : decode cX5_event 14 = .ok (.iconst 1, 1) := by decide +kernel
theorem dX5_event_15 : decode cX5_event 15 = .ok (.sipush 1000, 3) := by decide +kernel
theorem dX5_event_18 : decode cX5_event 18 = .ok (.invokestatic 39, 3) := by decide +kernel
theorem dX5_event_21 : decode cX5_event 21 = .ok (.aload 4, 2) := by decide +kernel
theorem dX5_event_23 : decode cX5_event 23 = .ok (.aload 4, 2) := by decide +kernel
theorem dX5_event_25 : decode cX5_event 25 = .ok (.getfield 201, 3) := by decide +kernel
theorem dX5_event_28 : decode cX5_event 28 = .ok (.iload_n 2, 1) := by decide +kernel
theorem dX5_event_29 : decode cX5_event 29 = .ok (.invokestatic 204, 3) := by decide +kernel
theorem dX5_event_32 : decode cX5_event 32 = .ok (.putfield 201, 3) := by decide +kernel
theorem dX5_event_35 : decode cX5_event 35 = .ok (.aload 4, 2) := by decide +kernel
theorem dX5_event_37 : decode cX5_event 37 = .ok (.dup, 1) := by decide +kernel
theorem dX5_event_38 : decode cX5_event 38 = .ok (.getfield 210, 3) := by decide +kernel
theorem dX5_event_41 : decode cX5_event 41 = .ok (.iload_n 3, 1) := by decide +kernel
theorem dX5_event_42 : decode cX5_event 42 = .ok (.iadd, 1) := by decide +kernel
theorem dX5_event_43 : decode cX5_event 43 = .ok (.putfield 210, 3) := by decide +kernel
theorem dX5_event_46 : decode cX5_event 46 = .ok (.aload 4, 2) := by decide +kernel
theorem dX5_event_48 : decode cX5_event 48 = .ok (.invokevirtual 213, 3) := by decide +kernel
theorem dX5_event_51 : decode cX5_event 51 = .ok (.ireturn, 1) := by decide +kernel
theorem dX5_recall_0 : decode cX5_recall 0 = .ok (.aload_n 0, 1) := by decide +kernel
theorem dX5_recall_1 : decode cX5_recall 1 = .ok (.iload_n 1, 1) := by decide +kernel
theorem dX5_recall_2 : decode cX5_recall 2 = .ok (.invokevirtual 108, 3) := by decide +kernel
theorem dX5_recall_5 : decode cX5_recall 5 = .ok (.pop, 1) := by decide +kernel
theorem dX5_recall_6 : decode cX5_recall 6 = .ok (.aload_n 0, 1) := by decide +kernel
theorem dX5_recall_7 : decode cX5_recall 7 = .ok (.iload_n 2, 1) := by decide +kernel
theorem dX5_recall_8 : decode cX5_recall 8 = .ok (.invokevirtual 193, 3) := by decide +kernel
theorem dX5_recall_11 : decode cX5_recall 11 = .ok (.pop, 1) := by decide +kernel
theorem dX5_recall_12 : decode cX5_recall 12 = .ok (.aload_n 0, 1) := by decide +kernel
theorem dX5_recall_13 : decode cX5_recall 13 = .ok (.iload_n 3, 1) := by decide +kernel
theorem dX5_recall_14 : decode cX5_recall 14 = .ok (.invokevirtual 193, 3) := by decide +kernel
theorem dX5_recall_17 : decode cX5_recall 17 = .ok (.pop, 1) := by decide +kernel
theorem dX5_recall_18 : decode cX5_recall 18 = .ok (.iload_n 3, 1) := by decide +kernel
theorem dX5_recall_19 : decode cX5_recall 19 = .ok (.iload_n 2, 1) := by decide +kernel
theorem dX5_recall_20 : decode cX5_recall 20 = .ok (.if_icmp .ge 13, 3) := by decide +kernel
theorem dX5_recall_23 : decode cX5_recall 23 = .ok (.new 61, 3) := by decide +kernel
theorem dX5_recall_26 : decode cX5_recall 26 = .ok (.dup, 1) := by decide +kernel
theorem dX5_recall_27 : decode cX5_recall 27 = .ok (.ldc 217, 2) := by decide +kernel
theorem dX5_recall_29 : decode cX5_recall 29 = .ok (.invokespecial 65, 3) := by decide +kernel
theorem dX5_recall_32 : decode cX5_recall 32 = .ok (.athrow, 1) := by decide +kernel
theorem dX5_recall_33 : decode cX5_recall 33 = .ok (.iconst 0, 1) := by decide +kernel
theorem dX5_recall_34 : decode cX5_recall 34 = .ok (.istore 4, 2) := by decide +kernel
theorem dX5_recall_36 : decode cX5_recall 36 = .ok (.iload_n 2, 1) := by decide +kernel
theorem dX5_recall_37 : decode cX5_recall 37 = .ok (.istore 5, 2) := by decide +kernel
theorem dX5_recall_39 : decode cX5_recall 39 = .ok (.iload 5, 2) := by decide +kernel
theorem dX5_recall_41 : decode cX5_recall 41 = .ok (.iload_n 3, 1) := by decide +kernel
theorem dX5_recall_42 : decode cX5_recall 42 = .ok (.if_icmp .gt 42, 3) := by decide +kernel
theorem dX5_recall_45 : decode cX5_recall 45 = .ok (.aload_n 0, 1) := by decide +kernel
theorem dX5_recall_46 : decode cX5_recall 46 = .ok (.iload 5, 2) := by decide +kernel
theorem dX5_recall_48 : decode cX5_recall 48 = .ok (.invokevirtual 193, 3) := by decide +kernel
theorem dX5_recall_51 : decode cX5_recall 51 = .ok (.astore 6, 2) := by decide +kernel
theorem dX5_recall_53 : decode cX5_recall 53 = .ok (.aload 6, 2) := by decide +kernel
theorem dX5_recall_55 : decode cX5_recall 55 = .ok (.iload_n 1, 1) := by decide +kernel
theorem dX5_recall_56 : decode cX5_recall 56 = .ok (.invokevirtual 219, 3) := by decide +kernel
theorem dX5_recall_59 : decode cX5_recall 59 = .ok (.ifCond .eq 19, 3) := by decide +kernel
theorem dX5_recall_62 : decode cX5_recall 62 = .ok (.aload 6, 2) := by decide +kernel
theorem dX5_recall_64 : decode cX5_recall 64 = .ok (.iconst 1, 1) := by decide +kernel
theorem dX5_recall_65 : decode cX5_recall 65 = .ok (.putfield 223, 3) := by decide +kernel
theorem dX5_recall_68 : decode cX5_recall 68 = .ok (.iload 4, 2) := by decide +kernel
theorem dX5_recall_70 : decode cX5_recall 70 = .ok (.aload 6, 2) := by decide +kernel
theorem dX5_recall_72 : decode cX5_recall 72 = .ok (.getfield 226, 3) := by decide +kernel
theorem dX5_recall_75 : decode cX5_recall 75 = .ok (.iadd, 1) := by decide +kernel
theorem dX5_recall_76 : decode cX5_recall 76 = .ok (.istore 4, 2) := by decide +kernel
theorem dX5_recall_78 : decode cX5_recall 78 = .ok (.iinc 5 1, 3) := by decide +kernel
theorem dX5_recall_81 : decode cX5_recall 81 = .ok (.goto (-42), 3) := by decide +kernel
theorem dX5_recall_84 : decode cX5_recall 84 = .ok (.iload 4, 2) := by decide +kernel
theorem dX5_recall_86 : decode cX5_recall 86 = .ok (.ireturn, 1) := by decide +kernel
theorem dX5_ban_0 : decode cX5_ban 0 = .ok (.iload_n 1, 1) := by decide +kernel
theorem dX5_ban_1 : decode cX5_ban 1 = .ok (.ifCond .lt 8, 3) := by decide +kernel
theorem dX5_ban_4 : decode cX5_ban 4 = .ok (.iload_n 1, 1) := by decide +kernel
theorem dX5_ban_5 : decode cX5_ban 5 = .ok (.iconst 5, 1) := by decide +kernel
theorem dX5_ban_6 : decode cX5_ban 6 = .ok (.if_icmp .lt 13, 3) := by decide +kernel
theorem dX5_ban_9 : decode cX5_ban 9 = .ok (.new 229, 3) := by decide +kernel
theorem dX5_ban_12 : decode cX5_ban 12 = .ok (.dup, 1) := by decide +kernel
theorem dX5_ban_13 : decode cX5_ban 13 = .ok (.ldc 231, 2) := by decide +kernel
theorem dX5_ban_15 : decode cX5_ban 15 = .ok (.invokespecial 233, 3) := by decide +kernel
theorem dX5_ban_18 : decode cX5_ban 18 = .ok (.athrow, 1) := by decide +kernel
theorem dX5_ban_19 : decode cX5_ban 19 = .ok (.aload_n 0, 1) := by decide +kernel
theorem dX5_ban_20 : decode cX5_ban 20 = .ok (.iload_n 2, 1) := by decide +kernel
theorem dX5_ban_21 : decode cX5_ban 21 = .ok (.invokevirtual 108, 3) := by decide +kernel
theorem dX5_ban_24 : decode cX5_ban 24 = .ok (.astore 4, 2) := by decide +kernel
theorem dX5_ban_26 : decode cX5_ban 26 = .ok (.iload_n 3, 1) := by decide +kernel
theorem dX5_ban_27 : decode cX5_ban 27 = .ok (.ifCond .eq 19, 3) := by decide +kernel
theorem dX5_ban_30 : decode cX5_ban 30 = .ok (.aload 4, 2) := by decide +kernel
theorem dX5_ban_32 : decode cX5_ban 32 = .ok (.dup, 1) := by decide +kernel
theorem dX5_ban_33 : decode cX5_ban 33 = .ok (.getfield 234, 3) := by decide +kernel
theorem dX5_ban_36 : decode cX5_ban 36 = .ok (.iconst 1, 1) := by decide +kernel
theorem dX5_ban_37 : decode cX5_ban 37 = .ok (.iload_n 1, 1) := by decide +kernel
theorem dX5_ban_38 : decode cX5_ban 38 = .ok (.ishl, 1) := by decide +kernel
theorem dX5_ban_39 : decode cX5_ban 39 = .ok (.ior, 1) := by decide +kernel
theorem dX5_ban_40 : decode cX5_ban 40 = .ok (.putfield 234, 3) := by decide +kernel
theorem dX5_ban_43 : decode cX5_ban 43 = .ok (.goto 18, 3) := by decide +kernel
theorem dX5_ban_46 : decode cX5_ban 46 = .ok (.aload 4, 2) := by decide +kernel
theorem dX5_ban_48 : decode cX5_ban 48 = .ok (.dup, 1) := by decide +kernel
theorem dX5_ban_49 : decode cX5_ban 49 = .ok (.getfield 234, 3) := by decide +kernel
theorem dX5_ban_52 : decode cX5_ban 52 = .ok (.iconst 1, 1) := by decide +kernel
theorem dX5_ban_53 : decode cX5_ban 53 = .ok (.iload_n 1, 1) := by decide +kernel
theorem dX5_ban_54 : decode cX5_ban 54 = .ok (.ishl, 1) := by decide +kernel
theorem dX5_ban_55 : decode cX5_ban 55 = .ok (.iconst (-1), 1) := by decide +kernel
theorem dX5_ban_56 : decode cX5_ban 56 = .ok (.ixor, 1) := by decide +kernel
theorem dX5_ban_57 : decode cX5_ban 57 = .ok (.iand, 1) := by decide +kernel
theorem dX5_ban_58 : decode cX5_ban 58 = .ok (.putfield 234, 3) := by decide +kernel
theorem dX5_ban_61 : decode cX5_ban 61 = .ok (.aload 4, 2) := by decide +kernel
theorem dX5_ban_63 : decode cX5_ban 63 = .ok (.getfield 234, 3) := by decide +kernel
theorem dX5_ban_66 : decode cX5_ban 66 = .ok (.invokestatic 237, 3) := by decide +kernel
theorem dX5_ban_69 : decode cX5_ban 69 = .ok (.ireturn, 1) := by decide +kernel
theorem dX5_pass_0 : decode cX5_pass 0 = .ok (.iload_n 1, 1) := by decide +kernel
theorem dX5_pass_1 : decode cX5_pass 1 = .ok (.iconst 1, 1) := by decide +kernel
theorem dX5_pass_2 : decode cX5_pass 2 = .ok (.sipush 500, 3) := by decide +kernel
theorem dX5_pass_5 : decode cX5_pass 5 = .ok (.invokestatic 39, 3) := by decide +kernel
theorem dX5_pass_8 : decode cX5_pass 8 = .ok (.aload_n 0, 1) := by decide +kernel
theorem dX5_pass_9 : decode cX5_pass 9 = .ok (.getfield 91, 3) := by decide +kernel
theorem dX5_pass_12 : decode cX5_pass 12 = .ok (.iload_n 1, 1) := by decide +kernel
theorem dX5_pass_13 : decode cX5_pass 13 = .ok (.iadd, 1) := by decide +kernel
theorem dX5_pass_14 : decode cX5_pass 14 = .ok (.sipush 5000, 3) := by decide +kernel
theorem dX5_pass_17 : decode cX5_pass 17 = .ok (.if_icmp .le 13, 3) := by decide +kernel
theorem dX5_pass_20 : decode cX5_pass 20 = .ok (.new 47, 3) := by decide +kernel
theorem dX5_pass_23 : decode cX5_pass 23 = .ok (.dup, 1) := by decide +kernel
theorem dX5_pass_24 : decode cX5_pass 24 = .ok (.ldc 243, 2) := by decide +kernel
theorem dX5_pass_26 : decode cX5_pass 26 = .ok (.invokespecial 51, 3) := by decide +kernel
theorem dX5_pass_29 : decode cX5_pass 29 = .ok (.athrow, 1) := by decide +kernel
theorem dX5_pass_30 : decode cX5_pass 30 = .ok (.aload_n 0, 1) := by decide +kernel
theorem dX5_pass_31 : decode cX5_pass 31 = .ok (.dup, 1) := by decide +kernel
theorem dX5_pass_32 : decode cX5_pass 32 = .ok (.getfield 91, 3) := by decide +kernel
theorem dX5_pass_35 : decode cX5_pass 35 = .ok (.iload_n 1, 1) := by decide +kernel
theorem dX5_pass_36 : decode cX5_pass 36 = .ok (.iadd, 1) := by decide +kernel
theorem dX5_pass_37 : decode cX5_pass 37 = .ok (.putfield 91, 3) := by decide +kernel
theorem dX5_pass_40 : decode cX5_pass 40 = .ok (.aload_n 0, 1) := by decide +kernel
theorem dX5_pass_41 : decode cX5_pass 41 = .ok (.getfield 91, 3) := by decide +kernel
theorem dX5_pass_44 : decode cX5_pass 44 = .ok (.ireturn, 1) := by decide +kernel
theorem dX5_day_0 : decode cX5_day 0 = .ok (.aload_n 0, 1) := by decide +kernel
theorem dX5_day_1 : decode cX5_day 1 = .ok (.getfield 91, 3) := by decide +kernel
theorem dX5_day_4 : decode cX5_day 4 = .ok (.ireturn, 1) := by decide +kernel
theorem dX5_applies_0 : decode cX5_applies 0 = .ok (.aload_n 0, 1) := by decide +kernel
theorem dX5_applies_1 : decode cX5_applies 1 = .ok (.iload_n 1, 1) := by decide +kernel
theorem dX5_applies_2 : decode cX5_applies 2 = .ok (.invokevirtual 57, 3) := by decide +kernel
theorem dX5_applies_5 : decode cX5_applies 5 = .ok (.pop, 1) := by decide +kernel
theorem dX5_applies_6 : decode cX5_applies 6 = .ok (.aload_n 0, 1) := by decide +kernel
theorem dX5_applies_7 : decode cX5_applies 7 = .ok (.aload_n 0, 1) := by decide +kernel
theorem dX5_applies_8 : decode cX5_applies 8 = .ok (.iload_n 2, 1) := by decide +kernel
theorem dX5_applies_9 : decode cX5_applies 9 = .ok (.invokevirtual 108, 3) := by decide +kernel
theorem dX5_applies_12 : decode cX5_applies 12 = .ok (.invokevirtual 245, 3) := by decide +kernel
theorem dX5_applies_15 : decode cX5_applies 15 = .ok (.iload_n 1, 1) := by decide +kernel
theorem dX5_applies_16 : decode cX5_applies 16 = .ok (.invokestatic 70, 3) := by decide +kernel
theorem dX5_applies_19 : decode cX5_applies 19 = .ok (.ireturn, 1) := by decide +kernel
theorem dX5_demands_0 : decode cX5_demands 0 = .ok (.aload_n 0, 1) := by decide +kernel
theorem dX5_demands_1 : decode cX5_demands 1 = .ok (.iload_n 1, 1) := by decide +kernel
theorem dX5_demands_2 : decode cX5_demands 2 = .ok (.invokevirtual 108, 3) := by decide +kernel
theorem dX5_demands_5 : decode cX5_demands 5 = .ok (.astore_n 3, 1) := by decide +kernel
theorem dX5_demands_6 : decode cX5_demands 6 = .ok (.aload_n 0, 1) := by decide +kernel
theorem dX5_demands_7 : decode cX5_demands 7 = .ok (.aload_n 3, 1) := by decide +kernel
theorem dX5_demands_8 : decode cX5_demands 8 = .ok (.invokevirtual 248, 3) := by decide +kernel
theorem dX5_demands_11 : decode cX5_demands 11 = .ok (.istore 4, 2) := by decide +kernel
theorem dX5_demands_13 : decode cX5_demands 13 = .ok (.iload_n 2, 1) := by decide +kernel
theorem dX5_demands_14 : decode cX5_demands 14 = .ok (.ifCond .eq 13, 3) := by decide +kernel
theorem dX5_demands_17 : decode cX5_demands 17 = .ok (.aload_n 0, 1) := by decide +kernel
theorem dX5_demands_18 : decode cX5_demands 18 = .ok (.aload_n 3, 1) := by decide +kernel
theorem dX5_demands_19 : decode cX5_demands 19 = .ok (.iload 4, 2) := by decide +kernel
theorem dX5_demands_21 : decode cX5_demands 21 = .ok (.invokevirtual 251, 3) := by decide +kernel
theorem dX5_demands_24 : decode cX5_demands 24 = .ok (.goto 5, 3) := by decide +kernel
theorem dX5_demands_27 : decode cX5_demands 27 = .ok (.iload 4, 2) := by decide +kernel
theorem dX5_demands_29 : decode cX5_demands 29 = .ok (.ireturn, 1) := by decide +kernel
theorem dX5_way_0 : decode cX5_way 0 = .ok (.aload_n 0, 1) := by decide +kernel
theorem dX5_way_1 : decode cX5_way 1 = .ok (.iload_n 1, 1) := by decide +kernel
theorem dX5_way_2 : decode cX5_way 2 = .ok (.invokevirtual 108, 3) := by decide +kernel
theorem dX5_way_5 : decode cX5_way 5 = .ok (.astore_n 2, 1) := by decide +kernel
theorem dX5_way_6 : decode cX5_way 6 = .ok (.aload_n 0, 1) := by decide +kernel
theorem dX5_way_7 : decode cX5_way 7 = .ok (.aload_n 2, 1) := by decide +kernel
theorem dX5_way_8 : decode cX5_way 8 = .ok (.aload_n 0, 1) := by decide +kernel
theorem dX5_way_9 : decode cX5_way 9 = .ok (.aload_n 2, 1) := by decide +kernel
theorem dX5_way_10 : decode cX5_way 10 = .ok (.invokevirtual 248, 3) := by decide +kernel
theorem dX5_way_13 : decode cX5_way 13 = .ok (.invokevirtual 255, 3) := by decide +kernel
theorem dX5_way_16 : decode cX5_way 16 = .ok (.ireturn, 1) := by decide +kernel
theorem dX5_wanting_0 : decode cX5_wanting 0 = .ok (.aload_n 0, 1) := by decide +kernel
theorem dX5_wanting_1 : decode cX5_wanting 1 = .ok (.aload_n 0, 1) := by decide +kernel
theorem dX5_wanting_2 : decode cX5_wanting 2 = .ok (.iload_n 1, 1) := by decide +kernel
theorem dX5_wanting_3 : decode cX5_wanting 3 = .ok (.invokevirtual 108, 3) := by decide +kernel
theorem dX5_wanting_6 : decode cX5_wanting 6 = .ok (.invokevirtual 137, 3) := by decide +kernel
theorem dX5_wanting_9 : decode cX5_wanting 9 = .ok (.ireturn, 1) := by decide +kernel
theorem dX5_productOf_0 : decode cX5_productOf 0 = .ok (.aload_n 0, 1) := by decide +kernel
theorem dX5_productOf_1 : decode cX5_productOf 1 = .ok (.iload_n 1, 1) := by decide +kernel
theorem dX5_productOf_2 : decode cX5_productOf 2 = .ok (.invokevirtual 108, 3) := by decide +kernel
theorem dX5_productOf_5 : decode cX5_productOf 5 = .ok (.astore_n 3, 1) := by decide +kernel
theorem dX5_productOf_6 : decode cX5_productOf 6 = .ok (.iload_n 2, 1) := by decide +kernel
theorem dX5_productOf_7 : decode cX5_productOf 7 = .ok (.tableswitch 91 0 6 #[41, 46, 51, 70, 75, 80, 85], 41) := by decide +kernel
theorem dX5_productOf_48 : decode cX5_productOf 48 = .ok (.aload_n 3, 1) := by decide +kernel
theorem dX5_productOf_49 : decode cX5_productOf 49 = .ok (.getfield 112, 3) := by decide +kernel
theorem dX5_productOf_52 : decode cX5_productOf 52 = .ok (.ireturn, 1) := by decide +kernel
theorem dX5_productOf_53 : decode cX5_productOf 53 = .ok (.aload_n 3, 1) := by decide +kernel
theorem dX5_productOf_54 : decode cX5_productOf 54 = .ok (.getfield 118, 3) := by decide +kernel
theorem dX5_productOf_57 : decode cX5_productOf 57 = .ok (.ireturn, 1) := by decide +kernel
theorem dX5_productOf_58 : decode cX5_productOf 58 = .ok (.aload_n 3, 1) := by decide +kernel
theorem dX5_productOf_59 : decode cX5_productOf 59 = .ok (.getfield 169, 3) := by decide +kernel
theorem dX5_productOf_62 : decode cX5_productOf 62 = .ok (.ifnonnull 7, 3) := by decide +kernel
theorem dX5_productOf_65 : decode cX5_productOf 65 = .ok (.iconst (-1), 1) := by decide +kernel
theorem dX5_productOf_66 : decode cX5_productOf 66 = .ok (.goto 10, 3) := by decide +kernel
theorem dX5_productOf_69 : decode cX5_productOf 69 = .ok (.aload_n 3, 1) := by decide +kernel
theorem dX5_productOf_70 : decode cX5_productOf 70 = .ok (.getfield 169, 3) := by decide +kernel
theorem dX5_productOf_73 : decode cX5_productOf 73 = .ok (.getfield 178, 3) := by decide +kernel
theorem dX5_productOf_76 : decode cX5_productOf 76 = .ok (.ireturn, 1) := by decide +kernel
theorem dX5_productOf_77 : decode cX5_productOf 77 = .ok (.aload_n 3, 1) := by decide +kernel
theorem dX5_productOf_78 : decode cX5_productOf 78 = .ok (.getfield 173, 3) := by decide +kernel
theorem dX5_productOf_81 : decode cX5_productOf 81 = .ok (.ireturn, 1) := by decide +kernel
theorem dX5_productOf_82 : decode cX5_productOf 82 = .ok (.aload_n 3, 1) := by decide +kernel
theorem dX5_productOf_83 : decode cX5_productOf 83 = .ok (.getfield 181, 3) := by decide +kernel
theorem dX5_productOf_86 : decode cX5_productOf 86 = .ok (.ireturn, 1) := by decide +kernel
theorem dX5_productOf_87 : decode cX5_productOf 87 = .ok (.aload_n 3, 1) := by decide +kernel
theorem dX5_productOf_88 : decode cX5_productOf 88 = .ok (.getfield 143, 3) := by decide +kernel
theorem dX5_productOf_91 : decode cX5_productOf 91 = .ok (.ireturn, 1) := by decide +kernel
theorem dX5_productOf_92 : decode cX5_productOf 92 = .ok (.aload_n 0, 1) := by decide +kernel
theorem dX5_productOf_93 : decode cX5_productOf 93 = .ok (.iload_n 1, 1) := by decide +kernel
theorem dX5_productOf_94 : decode cX5_productOf 94 = .ok (.invokevirtual 258, 3) := by decide +kernel
theorem dX5_productOf_97 : decode cX5_productOf 97 = .ok (.ireturn, 1) := by decide +kernel
theorem dX5_productOf_98 : decode cX5_productOf 98 = .ok (.new 61, 3) := by decide +kernel
theorem dX5_productOf_101 : decode cX5_productOf 101 = .ok (.dup, 1) := by decide +kernel
theorem dX5_productOf_102 : decode cX5_productOf 102 = .ok (.ldc_w 261, 3) := by decide +kernel
theorem dX5_productOf_105 : decode cX5_productOf 105 = .ok (.invokespecial 65, 3) := by decide +kernel
theorem dX5_productOf_108 : decode cX5_productOf 108 = .ok (.athrow, 1) := by decide +kernel
theorem dX5_riskOf_0 : decode cX5_riskOf 0 = .ok (.aload_n 0, 1) := by decide +kernel
theorem dX5_riskOf_1 : decode cX5_riskOf 1 = .ok (.iload_n 1, 1) := by decide +kernel
theorem dX5_riskOf_2 : decode cX5_riskOf 2 = .ok (.invokevirtual 108, 3) := by decide +kernel
theorem dX5_riskOf_5 : decode cX5_riskOf 5 = .ok (.astore 4, 2) := by decide +kernel
theorem dX5_riskOf_7 : decode cX5_riskOf 7 = .ok (.iload_n 2, 1) := by decide +kernel
theorem dX5_riskOf_8 : decode cX5_riskOf 8 = .ok (.invokestatic 121, 3) := by decide +kernel
theorem dX5_riskOf_11 : decode cX5_riskOf 11 = .ok (.iload_n 3, 1) := by decide +kernel
theorem dX5_riskOf_12 : decode cX5_riskOf 12 = .ok (.ifCond .eq 13, 3) := by decide +kernel
theorem dX5_riskOf_15 : decode cX5_riskOf 15 = .ok (.aload 4, 2) := by decide +kernel
theorem dX5_riskOf_17 : decode cX5_riskOf 17 = .ok (.getfield 128, 3) := by decide +kernel
theorem dX5_riskOf_20 : decode cX5_riskOf 20 = .ok (.iload_n 2, 1) := by decide +kernel
theorem dX5_riskOf_21 : decode cX5_riskOf 21 = .ok (.iaload, 1) := by decide +kernel
theorem dX5_riskOf_22 : decode cX5_riskOf 22 = .ok (.goto 10, 3) := by decide +kernel
theorem dX5_riskOf_25 : decode cX5_riskOf 25 = .ok (.aload 4, 2) := by decide +kernel
theorem dX5_riskOf_27 : decode cX5_riskOf 27 = .ok (.getfield 124, 3) := by decide +kernel
theorem dX5_riskOf_30 : decode cX5_riskOf 30 = .ok (.iload_n 2, 1) := by decide +kernel
theorem dX5_riskOf_31 : decode cX5_riskOf 31 = .ok (.iaload, 1) := by decide +kernel
theorem dX5_riskOf_32 : decode cX5_riskOf 32 = .ok (.ireturn, 1) := by decide +kernel
theorem dX5_batchOf_0 : decode cX5_batchOf 0 = .ok (.aload_n 0, 1) := by decide +kernel
theorem dX5_batchOf_1 : decode cX5_batchOf 1 = .ok (.iload_n 1, 1) := by decide +kernel
theorem dX5_batchOf_2 : decode cX5_batchOf 2 = .ok (.invokevirtual 193, 3) := by decide +kernel
theorem dX5_batchOf_5 : decode cX5_batchOf 5 = .ok (.astore_n 3, 1) := by decide +kernel
theorem dX5_batchOf_6 : decode cX5_batchOf 6 = .ok (.iload_n 2, 1) := by decide +kernel
theorem dX5_batchOf_7 : decode cX5_batchOf 7 = .ok (.tableswitch 94 0 8 #[49, 54, 59, 64, 69, 74, 79, 84, 89], 49) := by decide +kernel
theorem dX5_batchOf_56 : decode cX5_batchOf 56 = .ok (.aload_n 3, 1) := by decide +kernel
theorem dX5_batchOf_57 : decode cX5_batchOf 57 = .ok (.getfield 263, 3) := by decide +kernel
theorem dX5_batchOf_60 : decode cX5_batchOf 60 = .ok (.ireturn, 1) := by decide +kernel
theorem dX5_batchOf_61 : decode cX5_batchOf 61 = .ok (.aload_n 3, 1) := by decide +kernel
theorem dX5_batchOf_62 : decode cX5_batchOf 62 = .ok (.getfield 226, 3) := by decide +kernel
theorem dX5_batchOf_65 : decode cX5_batchOf 65 = .ok (.ireturn, 1) := by decide +kernel
theorem dX5_batchOf_66 : decode cX5_batchOf 66 = .ok (.aload_n 3, 1) := by decide +kernel
theorem dX5_batchOf_67 : decode cX5_batchOf 67 = .ok (.getfield 266, 3) := by decide +kernel
theorem dX5_batchOf_70 : decode cX5_batchOf 70 = .ok (.ireturn, 1) := by decide +kernel
theorem dX5_batchOf_71 : decode cX5_batchOf 71 = .ok (.aload_n 3, 1) := by decide +kernel
theorem dX5_batchOf_72 : decode cX5_batchOf 72 = .ok (.getfield 269, 3) := by decide +kernel
theorem dX5_batchOf_75 : decode cX5_batchOf 75 = .ok (.ireturn, 1) := by decide +kernel
theorem dX5_batchOf_76 : decode cX5_batchOf 76 = .ok (.aload_n 3, 1) := by decide +kernel
theorem dX5_batchOf_77 : decode cX5_batchOf 77 = .ok (.getfield 270, 3) := by decide +kernel
theorem dX5_batchOf_80 : decode cX5_batchOf 80 = .ok (.ireturn, 1) := by decide +kernel
theorem dX5_batchOf_81 : decode cX5_batchOf 81 = .ok (.aload_n 3, 1) := by decide +kernel
theorem dX5_batchOf_82 : decode cX5_batchOf 82 = .ok (.getfield 223, 3) := by decide +kernel
theorem dX5_batchOf_85 : decode cX5_batchOf 85 = .ok (.ireturn, 1) := by decide +kernel
theorem dX5_batchOf_86 : decode cX5_batchOf 86 = .ok (.aload_n 3, 1) := by decide +kernel
theorem dX5_batchOf_87 : decode cX5_batchOf 87 = .ok (.getfield 198, 3) := by decide +kernel
theorem dX5_batchOf_90 : decode cX5_batchOf 90 = .ok (.ireturn, 1) := by decide +kernel
theorem dX5_batchOf_91 : decode cX5_batchOf 91 = .ok (.aload_n 3, 1) := by decide +kernel
theorem dX5_batchOf_92 : decode cX5_batchOf 92 = .ok (.invokevirtual 213, 3) := by decide +kernel
theorem dX5_batchOf_95 : decode cX5_batchOf 95 = .ok (.ireturn, 1) := by decide +kernel
theorem dX5_batchOf_96 : decode cX5_batchOf 96 = .ok (.aload_n 3, 1) := by decide +kernel
theorem dX5_batchOf_97 : decode cX5_batchOf 97 = .ok (.getfield 210, 3) := by decide +kernel
theorem dX5_batchOf_100 : decode cX5_batchOf 100 = .ok (.ireturn, 1) := by decide +kernel
theorem dX5_batchOf_101 : decode cX5_batchOf 101 = .ok (.new 61, 3) := by decide +kernel
theorem dX5_batchOf_104 : decode cX5_batchOf 104 = .ok (.dup, 1) := by decide +kernel
theorem dX5_batchOf_105 : decode cX5_batchOf 105 = .ok (.ldc_w 261, 3) := by decide +kernel
theorem dX5_batchOf_108 : decode cX5_batchOf 108 = .ok (.invokespecial 65, 3) := by decide +kernel
theorem dX5_batchOf_111 : decode cX5_batchOf 111 = .ok (.athrow, 1) := by decide +kernel
theorem dX5_wantingAnew_0 : decode cX5_wantingAnew 0 = .ok (.aload_n 0, 1) := by decide +kernel
theorem dX5_wantingAnew_1 : decode cX5_wantingAnew 1 = .ok (.iload_n 1, 1) := by decide +kernel
theorem dX5_wantingAnew_2 : decode cX5_wantingAnew 2 = .ok (.invokevirtual 193, 3) := by decide +kernel
theorem dX5_wantingAnew_5 : decode cX5_wantingAnew 5 = .ok (.getfield 270, 3) := by decide +kernel
theorem dX5_wantingAnew_8 : decode cX5_wantingAnew 8 = .ok (.ireturn, 1) := by decide +kernel
theorem dX5_actAt_0 : decode cX5_actAt 0 = .ok (.iload_n 1, 1) := by decide +kernel
theorem dX5_actAt_1 : decode cX5_actAt 1 = .ok (.ifCond .lt 12, 3) := by decide +kernel
theorem dX5_actAt_4 : decode cX5_actAt 4 = .ok (.iload_n 1, 1) := by decide +kernel
theorem dX5_actAt_5 : decode cX5_actAt 5 = .ok (.aload_n 0, 1) := by decide +kernel
theorem dX5_actAt_6 : decode cX5_actAt 6 = .ok (.getfield 11, 3) := by decide +kernel
theorem dX5_actAt_9 : decode cX5_actAt 9 = .ok (.arraylength, 1) := by decide +kernel
theorem dX5_actAt_10 : decode cX5_actAt 10 = .ok (.if_icmp .lt 7, 3) := by decide +kernel
theorem dX5_actAt_13 : decode cX5_actAt 13 = .ok (.aconst_null, 1) := by decide +kernel
theorem dX5_actAt_14 : decode cX5_actAt 14 = .ok (.goto 9, 3) := by decide +kernel
theorem dX5_actAt_17 : decode cX5_actAt 17 = .ok (.aload_n 0, 1) := by decide +kernel
theorem dX5_actAt_18 : decode cX5_actAt 18 = .ok (.getfield 11, 3) := by decide +kernel
theorem dX5_actAt_21 : decode cX5_actAt 21 = .ok (.iload_n 1, 1) := by decide +kernel
theorem dX5_actAt_22 : decode cX5_actAt 22 = .ok (.aaload, 1) := by decide +kernel
theorem dX5_actAt_23 : decode cX5_actAt 23 = .ok (.astore_n 2, 1) := by decide +kernel
theorem dX5_actAt_24 : decode cX5_actAt 24 = .ok (.aload_n 2, 1) := by decide +kernel
theorem dX5_actAt_25 : decode cX5_actAt 25 = .ok (.ifnonnull 14, 3) := by decide +kernel
theorem dX5_actAt_28 : decode cX5_actAt 28 = .ok (.new 229, 3) := by decide +kernel
theorem dX5_actAt_31 : decode cX5_actAt 31 = .ok (.dup, 1) := by decide +kernel
theorem dX5_actAt_32 : decode cX5_actAt 32 = .ok (.ldc_w 273, 3) := by decide +kernel
theorem dX5_actAt_35 : decode cX5_actAt 35 = .ok (.invokespecial 233, 3) := by decide +kernel
theorem dX5_actAt_38 : decode cX5_actAt 38 = .ok (.athrow, 1) := by decide +kernel
theorem dX5_actAt_39 : decode cX5_actAt 39 = .ok (.aload_n 2, 1) := by decide +kernel
theorem dX5_actAt_40 : decode cX5_actAt 40 = .ok (.areturn, 1) := by decide +kernel
theorem dX5_standardAt_0 : decode cX5_standardAt 0 = .ok (.iload_n 1, 1) := by decide +kernel
theorem dX5_standardAt_1 : decode cX5_standardAt 1 = .ok (.ifCond .lt 12, 3) := by decide +kernel
theorem dX5_standardAt_4 : decode cX5_standardAt 4 = .ok (.iload_n 1, 1) := by decide +kernel
theorem dX5_standardAt_5 : decode cX5_standardAt 5 = .ok (.aload_n 0, 1) := by decide +kernel
theorem dX5_standardAt_6 : decode cX5_standardAt 6 = .ok (.getfield 17, 3) := by decide +kernel
theorem dX5_standardAt_9 : decode cX5_standardAt 9 = .ok (.arraylength, 1) := by decide +kernel
theorem dX5_standardAt_10 : decode cX5_standardAt 10 = .ok (.if_icmp .lt 7, 3) := by decide +kernel
theorem dX5_standardAt_13 : decode cX5_standardAt 13 = .ok (.aconst_null, 1) := by decide +kernel
theorem dX5_standardAt_14 : decode cX5_standardAt 14 = .ok (.goto 9, 3) := by decide +kernel
theorem dX5_standardAt_17 : decode cX5_standardAt 17 = .ok (.aload_n 0, 1) := by decide +kernel
theorem dX5_standardAt_18 : decode cX5_standardAt 18 = .ok (.getfield 17, 3) := by decide +kernel
theorem dX5_standardAt_21 : decode cX5_standardAt 21 = .ok (.iload_n 1, 1) := by decide +kernel
theorem dX5_standardAt_22 : decode cX5_standardAt 22 = .ok (.aaload, 1) := by decide +kernel
theorem dX5_standardAt_23 : decode cX5_standardAt 23 = .ok (.astore_n 2, 1) := by decide +kernel
theorem dX5_standardAt_24 : decode cX5_standardAt 24 = .ok (.aload_n 2, 1) := by decide +kernel
theorem dX5_standardAt_25 : decode cX5_standardAt 25 = .ok (.ifnonnull 14, 3) := by decide +kernel
theorem dX5_standardAt_28 : decode cX5_standardAt 28 = .ok (.new 229, 3) := by decide +kernel
theorem dX5_standardAt_31 : decode cX5_standardAt 31 = .ok (.dup, 1) := by decide +kernel
theorem dX5_standardAt_32 : decode cX5_standardAt 32 = .ok (.ldc_w 275, 3) := by decide +kernel
theorem dX5_standardAt_35 : decode cX5_standardAt 35 = .ok (.invokespecial 233, 3) := by decide +kernel
theorem dX5_standardAt_38 : decode cX5_standardAt 38 = .ok (.athrow, 1) := by decide +kernel
theorem dX5_standardAt_39 : decode cX5_standardAt 39 = .ok (.aload_n 2, 1) := by decide +kernel
theorem dX5_standardAt_40 : decode cX5_standardAt 40 = .ok (.areturn, 1) := by decide +kernel
theorem dX5_productAt_0 : decode cX5_productAt 0 = .ok (.iload_n 1, 1) := by decide +kernel
theorem dX5_productAt_1 : decode cX5_productAt 1 = .ok (.ifCond .lt 12, 3) := by decide +kernel
theorem dX5_productAt_4 : decode cX5_productAt 4 = .ok (.iload_n 1, 1) := by decide +kernel
theorem dX5_productAt_5 : decode cX5_productAt 5 = .ok (.aload_n 0, 1) := by decide +kernel
theorem dX5_productAt_6 : decode cX5_productAt 6 = .ok (.getfield 23, 3) := by decide +kernel
theorem dX5_productAt_9 : decode cX5_productAt 9 = .ok (.arraylength, 1) := by decide +kernel
theorem dX5_productAt_10 : decode cX5_productAt 10 = .ok (.if_icmp .lt 7, 3) := by decide +kernel
theorem dX5_productAt_13 : decode cX5_productAt 13 = .ok (.aconst_null, 1) := by decide +kernel
theorem dX5_productAt_14 : decode cX5_productAt 14 = .ok (.goto 9, 3) := by decide +kernel
theorem dX5_productAt_17 : decode cX5_productAt 17 = .ok (.aload_n 0, 1) := by decide +kernel
theorem dX5_productAt_18 : decode cX5_productAt 18 = .ok (.getfield 23, 3) := by decide +kernel
theorem dX5_productAt_21 : decode cX5_productAt 21 = .ok (.iload_n 1, 1) := by decide +kernel
theorem dX5_productAt_22 : decode cX5_productAt 22 = .ok (.aaload, 1) := by decide +kernel
theorem dX5_productAt_23 : decode cX5_productAt 23 = .ok (.astore_n 2, 1) := by decide +kernel
theorem dX5_productAt_24 : decode cX5_productAt 24 = .ok (.aload_n 2, 1) := by decide +kernel
theorem dX5_productAt_25 : decode cX5_productAt 25 = .ok (.ifnonnull 14, 3) := by decide +kernel
theorem dX5_productAt_28 : decode cX5_productAt 28 = .ok (.new 229, 3) := by decide +kernel
theorem dX5_productAt_31 : decode cX5_productAt 31 = .ok (.dup, 1) := by decide +kernel
theorem dX5_productAt_32 : decode cX5_productAt 32 = .ok (.ldc_w 277, 3) := by decide +kernel
theorem dX5_productAt_35 : decode cX5_productAt 35 = .ok (.invokespecial 233, 3) := by decide +kernel
theorem dX5_productAt_38 : decode cX5_productAt 38 = .ok (.athrow, 1) := by decide +kernel
theorem dX5_productAt_39 : decode cX5_productAt 39 = .ok (.aload_n 2, 1) := by decide +kernel
theorem dX5_productAt_40 : decode cX5_productAt 40 = .ok (.areturn, 1) := by decide +kernel
theorem dX5_bodyAt_0 : decode cX5_bodyAt 0 = .ok (.iload_n 1, 1) := by decide +kernel
theorem dX5_bodyAt_1 : decode cX5_bodyAt 1 = .ok (.ifCond .lt 12, 3) := by decide +kernel
theorem dX5_bodyAt_4 : decode cX5_bodyAt 4 = .ok (.iload_n 1, 1) := by decide +kernel
theorem dX5_bodyAt_5 : decode cX5_bodyAt 5 = .ok (.aload_n 0, 1) := by decide +kernel
theorem dX5_bodyAt_6 : decode cX5_bodyAt 6 = .ok (.getfield 29, 3) := by decide +kernel
theorem dX5_bodyAt_9 : decode cX5_bodyAt 9 = .ok (.arraylength, 1) := by decide +kernel
theorem dX5_bodyAt_10 : decode cX5_bodyAt 10 = .ok (.if_icmp .lt 7, 3) := by decide +kernel
theorem dX5_bodyAt_13 : decode cX5_bodyAt 13 = .ok (.aconst_null, 1) := by decide +kernel
theorem dX5_bodyAt_14 : decode cX5_bodyAt 14 = .ok (.goto 9, 3) := by decide +kernel
theorem dX5_bodyAt_17 : decode cX5_bodyAt 17 = .ok (.aload_n 0, 1) := by decide +kernel
theorem dX5_bodyAt_18 : decode cX5_bodyAt 18 = .ok (.getfield 29, 3) := by decide +kernel
theorem dX5_bodyAt_21 : decode cX5_bodyAt 21 = .ok (.iload_n 1, 1) := by decide +kernel
theorem dX5_bodyAt_22 : decode cX5_bodyAt 22 = .ok (.aaload, 1) := by decide +kernel
theorem dX5_bodyAt_23 : decode cX5_bodyAt 23 = .ok (.astore_n 2, 1) := by decide +kernel
theorem dX5_bodyAt_24 : decode cX5_bodyAt 24 = .ok (.aload_n 2, 1) := by decide +kernel
theorem dX5_bodyAt_25 : decode cX5_bodyAt 25 = .ok (.ifnonnull 14, 3) := by decide +kernel
theorem dX5_bodyAt_28 : decode cX5_bodyAt 28 = .ok (.new 229, 3) := by decide +kernel
theorem dX5_bodyAt_31 : decode cX5_bodyAt 31 = .ok (.dup, 1) := by decide +kernel
theorem dX5_bodyAt_32 : decode cX5_bodyAt 32 = .ok (.ldc_w 279, 3) := by decide +kernel
theorem dX5_bodyAt_35 : decode cX5_bodyAt 35 = .ok (.invokespecial 233, 3) := by decide +kernel
theorem dX5_bodyAt_38 : decode cX5_bodyAt 38 = .ok (.athrow, 1) := by decide +kernel
theorem dX5_bodyAt_39 : decode cX5_bodyAt 39 = .ok (.aload_n 2, 1) := by decide +kernel
theorem dX5_bodyAt_40 : decode cX5_bodyAt 40 = .ok (.areturn, 1) := by decide +kernel
theorem dX5_batchAt_0 : decode cX5_batchAt 0 = .ok (.iload_n 1, 1) := by decide +kernel
theorem dX5_batchAt_1 : decode cX5_batchAt 1 = .ok (.ifCond .lt 12, 3) := by decide +kernel
theorem dX5_batchAt_4 : decode cX5_batchAt 4 = .ok (.iload_n 1, 1) := by decide +kernel
theorem dX5_batchAt_5 : decode cX5_batchAt 5 = .ok (.aload_n 0, 1) := by decide +kernel
theorem dX5_batchAt_6 : decode cX5_batchAt 6 = .ok (.getfield 35, 3) := by decide +kernel
theorem dX5_batchAt_9 : decode cX5_batchAt 9 = .ok (.arraylength, 1) := by decide +kernel
theorem dX5_batchAt_10 : decode cX5_batchAt 10 = .ok (.if_icmp .lt 7, 3) := by decide +kernel
theorem dX5_batchAt_13 : decode cX5_batchAt 13 = .ok (.aconst_null, 1) := by decide +kernel
theorem dX5_batchAt_14 : decode cX5_batchAt 14 = .ok (.goto 9, 3) := by decide +kernel
theorem dX5_batchAt_17 : decode cX5_batchAt 17 = .ok (.aload_n 0, 1) := by decide +kernel
theorem dX5_batchAt_18 : decode cX5_batchAt 18 = .ok (.getfield 35, 3) := by decide +kernel
theorem dX5_batchAt_21 : decode cX5_batchAt 21 = .ok (.iload_n 1, 1) := by decide +kernel
theorem dX5_batchAt_22 : decode cX5_batchAt 22 = .ok (.aaload, 1) := by decide +kernel
theorem dX5_batchAt_23 : decode cX5_batchAt 23 = .ok (.astore_n 2, 1) := by decide +kernel
theorem dX5_batchAt_24 : decode cX5_batchAt 24 = .ok (.aload_n 2, 1) := by decide +kernel
theorem dX5_batchAt_25 : decode cX5_batchAt 25 = .ok (.ifnonnull 14, 3) := by decide +kernel
theorem dX5_batchAt_28 : decode cX5_batchAt 28 = .ok (.new 229, 3) := by decide +kernel
theorem dX5_batchAt_31 : decode cX5_batchAt 31 = .ok (.dup, 1) := by decide +kernel
theorem dX5_batchAt_32 : decode cX5_batchAt 32 = .ok (.ldc_w 281, 3) := by decide +kernel
theorem dX5_batchAt_35 : decode cX5_batchAt 35 = .ok (.invokespecial 233, 3) := by decide +kernel
theorem dX5_batchAt_38 : decode cX5_batchAt 38 = .ok (.athrow, 1) := by decide +kernel
theorem dX5_batchAt_39 : decode cX5_batchAt 39 = .ok (.aload_n 2, 1) := by decide +kernel
theorem dX5_batchAt_40 : decode cX5_batchAt 40 = .ok (.areturn, 1) := by decide +kernel
theorem dX5_checkHazard_0 : decode cX5_checkHazard 0 = .ok (.iload_n 0, 1) := by decide +kernel
theorem dX5_checkHazard_1 : decode cX5_checkHazard 1 = .ok (.ifCond .lt 9, 3) := by decide +kernel
theorem dX5_checkHazard_4 : decode cX5_checkHazard 4 = .ok (.iload_n 0, 1) := by decide +kernel
theorem dX5_checkHazard_5 : decode cX5_checkHazard 5 = .ok (.bipush 8, 2) := by decide +kernel
theorem dX5_checkHazard_7 : decode cX5_checkHazard 7 = .ok (.if_icmp .lt 14, 3) := by decide +kernel
theorem dX5_checkHazard_10 : decode cX5_checkHazard 10 = .ok (.new 229, 3) := by decide +kernel
theorem dX5_checkHazard_13 : decode cX5_checkHazard 13 = .ok (.dup, 1) := by decide +kernel
theorem dX5_checkHazard_14 : decode cX5_checkHazard 14 = .ok (.ldc_w 283, 3) := by decide +kernel
theorem dX5_checkHazard_17 : decode cX5_checkHazard 17 = .ok (.invokespecial 233, 3) := by decide +kernel
theorem dX5_checkHazard_20 : decode cX5_checkHazard 20 = .ok (.athrow, 1) := by decide +kernel
theorem dX5_checkHazard_21 : decode cX5_checkHazard 21 = .ok (.return_, 1) := by decide +kernel
theorem dX5_checkRange_0 : decode cX5_checkRange 0 = .ok (.iload_n 0, 1) := by decide +kernel
theorem dX5_checkRange_1 : decode cX5_checkRange 1 = .ok (.iload_n 1, 1) := by decide +kernel
theorem dX5_checkRange_2 : decode cX5_checkRange 2 = .ok (.if_icmp .lt 8, 3) := by decide +kernel
theorem dX5_checkRange_5 : decode cX5_checkRange 5 = .ok (.iload_n 0, 1) := by decide +kernel
theorem dX5_checkRange_6 : decode cX5_checkRange 6 = .ok (.iload_n 2, 1) := by decide +kernel
theorem dX5_checkRange_7 : decode cX5_checkRange 7 = .ok (.if_icmp .le 14, 3) := by decide +kernel
theorem dX5_checkRange_10 : decode cX5_checkRange 10 = .ok (.new 61, 3) := by decide +kernel
theorem dX5_checkRange_13 : decode cX5_checkRange 13 = .ok (.dup, 1) := by decide +kernel
theorem dX5_checkRange_14 : decode cX5_checkRange 14 = .ok (.ldc_w 285, 3) := by decide +kernel
theorem dX5_checkRange_17 : decode cX5_checkRange 17 = .ok (.invokespecial 65, 3) := by decide +kernel
theorem dX5_checkRange_20 : decode cX5_checkRange 20 = .ok (.athrow, 1) := by decide +kernel
theorem dX5_checkRange_21 : decode cX5_checkRange 21 = .ok (.return_, 1) := by decide +kernel
theorem dX5_checkMayCertify_0 : decode cX5_checkMayCertify 0 = .ok (.aload_n 1, 1) := by decide +kernel
theorem dX5_checkMayCertify_1 : decode cX5_checkMayCertify 1 = .ok (.invokevirtual 156, 3) := by decide +kernel
theorem dX5_checkMayCertify_4 : decode cX5_checkMayCertify 4 = .ok (.ifCond .ne 15, 3) := by decide +kernel
theorem dX5_checkMayCertify_7 : decode cX5_checkMayCertify 7 = .ok (.aload_n 1, 1) := by decide +kernel
theorem dX5_checkMayCertify_8 : decode cX5_checkMayCertify 8 = .ok (.aload_n 0, 1) := by decide +kernel
theorem dX5_checkMayCertify_9 : decode cX5_checkMayCertify 9 = .ok (.aload_n 2, 1) := by decide +kernel
theorem dX5_checkMayCertify_10 : decode cX5_checkMayCertify 10 = .ok (.invokevirtual 245, 3) := by decide +kernel
theorem dX5_checkMayCertify_13 : decode cX5_checkMayCertify 13 = .ok (.invokevirtual 287, 3) := by decide +kernel
theorem dX5_checkMayCertify_16 : decode cX5_checkMayCertify 16 = .ok (.ifCond .ne 14, 3) := by decide +kernel
theorem dX5_checkMayCertify_19 : decode cX5_checkMayCertify 19 = .ok (.new 47, 3) := by decide +kernel
theorem dX5_checkMayCertify_22 : decode cX5_checkMayCertify 22 = .ok (.dup, 1) := by decide +kernel
theorem dX5_checkMayCertify_23 : decode cX5_checkMayCertify 23 = .ok (.ldc_w 290, 3) := by decide +kernel
theorem dX5_checkMayCertify_26 : decode cX5_checkMayCertify 26 = .ok (.invokespecial 51, 3) := by decide +kernel
theorem dX5_checkMayCertify_29 : decode cX5_checkMayCertify 29 = .ok (.athrow, 1) := by decide +kernel
theorem dX5_checkMayCertify_30 : decode cX5_checkMayCertify 30 = .ok (.return_, 1) := by decide +kernel
theorem dX5_hasBit_0 : decode cX5_hasBit 0 = .ok (.iload_n 0, 1) := by decide +kernel
theorem dX5_hasBit_1 : decode cX5_hasBit 1 = .ok (.iload_n 1, 1) := by decide +kernel
theorem dX5_hasBit_2 : decode cX5_hasBit 2 = .ok (.ishr, 1) := by decide +kernel
theorem dX5_hasBit_3 : decode cX5_hasBit 3 = .ok (.iconst 1, 1) := by decide +kernel
theorem dX5_hasBit_4 : decode cX5_hasBit 4 = .ok (.iand, 1) := by decide +kernel
theorem dX5_hasBit_5 : decode cX5_hasBit 5 = .ok (.ifCond .eq 7, 3) := by decide +kernel
theorem dX5_hasBit_8 : decode cX5_hasBit 8 = .ok (.iconst 1, 1) := by decide +kernel
theorem dX5_hasBit_9 : decode cX5_hasBit 9 = .ok (.goto 4, 3) := by decide +kernel
theorem dX5_hasBit_12 : decode cX5_hasBit 12 = .ok (.iconst 0, 1) := by decide +kernel
theorem dX5_hasBit_13 : decode cX5_hasBit 13 = .ok (.ireturn, 1) := by decide +kernel
theorem dX5_actsMoreSpecialThan_0 : decode cX5_actsMoreSpecialThan 0 = .ok (.aload_n 1, 1) := by decide +kernel
theorem dX5_actsMoreSpecialThan_1 : decode cX5_actsMoreSpecialThan 1 = .ok (.getfield 76, 3) := by decide +kernel
theorem dX5_actsMoreSpecialThan_4 : decode cX5_actsMoreSpecialThan 4 = .ok (.istore_n 2, 1) := by decide +kernel
theorem dX5_actsMoreSpecialThan_5 : decode cX5_actsMoreSpecialThan 5 = .ok (.iconst 1, 1) := by decide +kernel
theorem dX5_actsMoreSpecialThan_6 : decode cX5_actsMoreSpecialThan 6 = .ok (.istore_n 3, 1) := by decide +kernel
theorem dX5_actsMoreSpecialThan_7 : decode cX5_actsMoreSpecialThan 7 = .ok (.iload_n 3, 1) := by decide +kernel
theorem dX5_actsMoreSpecialThan_8 : decode cX5_actsMoreSpecialThan 8 = .ok (.aload_n 0, 1) := by decide +kernel
theorem dX5_actsMoreSpecialThan_9 : decode cX5_actsMoreSpecialThan 9 = .ok (.getfield 11, 3) := by decide +kernel
theorem dX5_actsMoreSpecialThan_12 : decode cX5_actsMoreSpecialThan 12 = .ok (.arraylength, 1) := by decide +kernel
theorem dX5_actsMoreSpecialThan_13 : decode cX5_actsMoreSpecialThan 13 = .ok (.if_icmp .ge 59, 3) := by decide +kernel
theorem dX5_actsMoreSpecialThan_16 : decode cX5_actsMoreSpecialThan 16 = .ok (.iconst 0, 1) := by decide +kernel
theorem dX5_actsMoreSpecialThan_17 : decode cX5_actsMoreSpecialThan 17 = .ok (.istore 4, 2) := by decide +kernel
theorem dX5_actsMoreSpecialThan_19 : decode cX5_actsMoreSpecialThan 19 = .ok (.iload 4, 2) := by decide +kernel
theorem dX5_actsMoreSpecialThan_21 : decode cX5_actsMoreSpecialThan 21 = .ok (.aload_n 0, 1) := by decide +kernel
theorem dX5_actsMoreSpecialThan_22 : decode cX5_actsMoreSpecialThan 22 = .ok (.getfield 11, 3) := by decide +kernel
theorem dX5_actsMoreSpecialThan_25 : decode cX5_actsMoreSpecialThan 25 = .ok (.arraylength, 1) := by decide +kernel
theorem dX5_actsMoreSpecialThan_26 : decode cX5_actsMoreSpecialThan 26 = .ok (.if_icmp .ge 40, 3) := by decide +kernel
theorem dX5_actsMoreSpecialThan_29 : decode cX5_actsMoreSpecialThan 29 = .ok (.aload_n 0, 1) := by decide +kernel
theorem dX5_actsMoreSpecialThan_30 : decode cX5_actsMoreSpecialThan 30 = .ok (.getfield 11, 3) := by decide +kernel
theorem dX5_actsMoreSpecialThan_33 : decode cX5_actsMoreSpecialThan 33 = .ok (.iload 4, 2) := by decide +kernel
theorem dX5_actsMoreSpecialThan_35 : decode cX5_actsMoreSpecialThan 35 = .ok (.aaload, 1) := by decide +kernel
theorem dX5_actsMoreSpecialThan_36 : decode cX5_actsMoreSpecialThan 36 = .ok (.astore 5, 2) := by decide +kernel
theorem dX5_actsMoreSpecialThan_38 : decode cX5_actsMoreSpecialThan 38 = .ok (.aload 5, 2) := by decide +kernel
theorem dX5_actsMoreSpecialThan_40 : decode cX5_actsMoreSpecialThan 40 = .ok (.ifnull 20, 3) := by decide +kernel
theorem dX5_actsMoreSpecialThan_43 : decode cX5_actsMoreSpecialThan 43 = .ok (.iload_n 2, 1) := by decide +kernel
theorem dX5_actsMoreSpecialThan_44 : decode cX5_actsMoreSpecialThan 44 = .ok (.iload 4, 2) := by decide +kernel
theorem dX5_actsMoreSpecialThan_46 : decode cX5_actsMoreSpecialThan 46 = .ok (.invokestatic 70, 3) := by decide +kernel
theorem dX5_actsMoreSpecialThan_49 : decode cX5_actsMoreSpecialThan 49 = .ok (.ifCond .eq 11, 3) := by decide +kernel
theorem dX5_actsMoreSpecialThan_52 : decode cX5_actsMoreSpecialThan 52 = .ok (.iload_n 2, 1) := by decide +kernel
theorem dX5_actsMoreSpecialThan_53 : decode cX5_actsMoreSpecialThan 53 = .ok (.aload 5, 2) := by decide +kernel
theorem dX5_actsMoreSpecialThan_55 : decode cX5_actsMoreSpecialThan 55 = .ok (.getfield 76, 3) := by decide +kernel
theorem dX5_actsMoreSpecialThan_58 : decode cX5_actsMoreSpecialThan 58 = .ok (.ior, 1) := by decide +kernel
theorem dX5_actsMoreSpecialThan_59 : decode cX5_actsMoreSpecialThan 59 = .ok (.istore_n 2, 1) := by decide +kernel
theorem dX5_actsMoreSpecialThan_60 : decode cX5_actsMoreSpecialThan 60 = .ok (.iinc 4 1, 3) := by decide +kernel
theorem dX5_actsMoreSpecialThan_63 : decode cX5_actsMoreSpecialThan 63 = .ok (.goto (-44), 3) := by decide +kernel
theorem dX5_actsMoreSpecialThan_66 : decode cX5_actsMoreSpecialThan 66 = .ok (.iinc 3 1, 3) := by decide +kernel
theorem dX5_actsMoreSpecialThan_69 : decode cX5_actsMoreSpecialThan 69 = .ok (.goto (-62), 3) := by decide +kernel
theorem dX5_actsMoreSpecialThan_72 : decode cX5_actsMoreSpecialThan 72 = .ok (.iload_n 2, 1) := by decide +kernel
theorem dX5_actsMoreSpecialThan_73 : decode cX5_actsMoreSpecialThan 73 = .ok (.ireturn, 1) := by decide +kernel
theorem dX5_actsForByThemselves_0 : decode cX5_actsForByThemselves 0 = .ok (.iconst 0, 1) := by decide +kernel
theorem dX5_actsForByThemselves_1 : decode cX5_actsForByThemselves 1 = .ok (.istore_n 2, 1) := by decide +kernel
theorem dX5_actsForByThemselves_2 : decode cX5_actsForByThemselves 2 = .ok (.iconst 0, 1) := by decide +kernel
theorem dX5_actsForByThemselves_3 : decode cX5_actsForByThemselves 3 = .ok (.istore_n 3, 1) := by decide +kernel
theorem dX5_actsForByThemselves_4 : decode cX5_actsForByThemselves 4 = .ok (.iload_n 3, 1) := by decide +kernel
theorem dX5_actsForByThemselves_5 : decode cX5_actsForByThemselves 5 = .ok (.aload_n 0, 1) := by decide +kernel
theorem dX5_actsForByThemselves_6 : decode cX5_actsForByThemselves 6 = .ok (.getfield 11, 3) := by decide +kernel
theorem dX5_actsForByThemselves_9 : decode cX5_actsForByThemselves 9 = .ok (.arraylength, 1) := by decide +kernel
theorem dX5_actsForByThemselves_10 : decode cX5_actsForByThemselves 10 = .ok (.if_icmp .ge 44, 3) := by decide +kernel
theorem dX5_actsForByThemselves_13 : decode cX5_actsForByThemselves 13 = .ok (.aload_n 0, 1) := by decide +kernel
theorem dX5_actsForByThemselves_14 : decode cX5_actsForByThemselves 14 = .ok (.getfield 11, 3) := by decide +kernel
theorem dX5_actsForByThemselves_17 : decode cX5_actsForByThemselves 17 = .ok (.iload_n 3, 1) := by decide +kernel
theorem dX5_actsForByThemselves_18 : decode cX5_actsForByThemselves 18 = .ok (.aaload, 1) := by decide +kernel
theorem dX5_actsForByThemselves_19 : decode cX5_actsForByThemselves 19 = .ok (.astore 4, 2) := by decide +kernel
theorem dX5_actsForByThemselves_21 : decode cX5_actsForByThemselves 21 = .ok (.aload 4, 2) := by decide +kernel
theorem dX5_actsForByThemselves_23 : decode cX5_actsForByThemselves 23 = .ok (.ifnull 25, 3) := by decide +kernel
theorem dX5_actsForByThemselves_26 : decode cX5_actsForByThemselves 26 = .ok (.aload 4, 2) := by decide +kernel
theorem dX5_actsForByThemselves_28 : decode cX5_actsForByThemselves 28 = .ok (.aload_n 1, 1) := by decide +kernel
theorem dX5_actsForByThemselves_29 : decode cX5_actsForByThemselves 29 = .ok (.getfield 112, 3) := by decide +kernel
theorem dX5_actsForByThemselves_32 : decode cX5_actsForByThemselves 32 = .ok (.aload_n 0, 1) := by decide +kernel
theorem dX5_actsForByThemselves_33 : decode cX5_actsForByThemselves 33 = .ok (.getfield 91, 3) := by decide +kernel
theorem dX5_actsForByThemselves_36 : decode cX5_actsForByThemselves 36 = .ok (.invokevirtual 292, 3) := by decide +kernel
theorem dX5_actsForByThemselves_39 : decode cX5_actsForByThemselves 39 = .ok (.ifCond .eq 9, 3) := by decide +kernel
theorem dX5_actsForByThemselves_42 : decode cX5_actsForByThemselves 42 = .ok (.iload_n 2, 1) := by decide +kernel
theorem dX5_actsForByThemselves_43 : decode cX5_actsForByThemselves 43 = .ok (.iconst 1, 1) := by decide +kernel
theorem dX5_actsForByThemselves_44 : decode cX5_actsForByThemselves 44 = .ok (.iload_n 3, 1) := by decide +kernel
theorem dX5_actsForByThemselves_45 : decode cX5_actsForByThemselves 45 = .ok (.ishl, 1) := by decide +kernel
theorem dX5_actsForByThemselves_46 : decode cX5_actsForByThemselves 46 = .ok (.ior, 1) := by decide +kernel
theorem dX5_actsForByThemselves_47 : decode cX5_actsForByThemselves 47 = .ok (.istore_n 2, 1) := by decide +kernel
theorem dX5_actsForByThemselves_48 : decode cX5_actsForByThemselves 48 = .ok (.iinc 3 1, 3) := by decide +kernel
theorem dX5_actsForByThemselves_51 : decode cX5_actsForByThemselves 51 = .ok (.goto (-47), 3) := by decide +kernel
theorem dX5_actsForByThemselves_54 : decode cX5_actsForByThemselves 54 = .ok (.iload_n 2, 1) := by decide +kernel
theorem dX5_actsForByThemselves_55 : decode cX5_actsForByThemselves 55 = .ok (.ireturn, 1) := by decide +kernel
theorem dX5_actsApplyingTo_0 : decode cX5_actsApplyingTo 0 = .ok (.aload_n 0, 1) := by decide +kernel
theorem dX5_actsApplyingTo_1 : decode cX5_actsApplyingTo 1 = .ok (.aload_n 1, 1) := by decide +kernel
theorem dX5_actsApplyingTo_2 : decode cX5_actsApplyingTo 2 = .ok (.invokevirtual 295, 3) := by decide +kernel
theorem dX5_actsApplyingTo_5 : decode cX5_actsApplyingTo 5 = .ok (.istore_n 2, 1) := by decide +kernel
theorem dX5_actsApplyingTo_6 : decode cX5_actsApplyingTo 6 = .ok (.iconst 0, 1) := by decide +kernel
theorem dX5_actsApplyingTo_7 : decode cX5_actsApplyingTo 7 = .ok (.istore_n 3, 1) := by decide +kernel
theorem dX5_actsApplyingTo_8 : decode cX5_actsApplyingTo 8 = .ok (.iconst 0, 1) := by decide +kernel
theorem dX5_actsApplyingTo_9 : decode cX5_actsApplyingTo 9 = .ok (.istore 4, 2) := by decide +kernel
theorem dX5_actsApplyingTo_11 : decode cX5_actsApplyingTo 11 = .ok (.iload 4, 2) := by decide +kernel
theorem dX5_actsApplyingTo_13 : decode cX5_actsApplyingTo 13 = .ok (.aload_n 0, 1) := by decide +kernel
theorem dX5_actsApplyingTo_14 : decode cX5_actsApplyingTo 14 = .ok (.getfield 11, 3) := by decide +kernel
theorem dX5_actsApplyingTo_17 : decode cX5_actsApplyingTo 17 = .ok (.arraylength, 1) := by decide +kernel
theorem dX5_actsApplyingTo_18 : decode cX5_actsApplyingTo 18 = .ok (.if_icmp .ge 49, 3) := by decide +kernel
theorem dX5_actsApplyingTo_21 : decode cX5_actsApplyingTo 21 = .ok (.aload_n 0, 1) := by decide +kernel
theorem dX5_actsApplyingTo_22 : decode cX5_actsApplyingTo 22 = .ok (.getfield 11, 3) := by decide +kernel
theorem dX5_actsApplyingTo_25 : decode cX5_actsApplyingTo 25 = .ok (.iload 4, 2) := by decide +kernel
theorem dX5_actsApplyingTo_27 : decode cX5_actsApplyingTo 27 = .ok (.aaload, 1) := by decide +kernel
theorem dX5_actsApplyingTo_28 : decode cX5_actsApplyingTo 28 = .ok (.astore 5, 2) := by decide +kernel
theorem dX5_actsApplyingTo_30 : decode cX5_actsApplyingTo 30 = .ok (.aload 5, 2) := by decide +kernel
theorem dX5_actsApplyingTo_32 : decode cX5_actsApplyingTo 32 = .ok (.ifnull 29, 3) := by decide +kernel
theorem dX5_actsApplyingTo_35 : decode cX5_actsApplyingTo 35 = .ok (.iload_n 2, 1) := by decide +kernel
theorem dX5_actsApplyingTo_36 : decode cX5_actsApplyingTo 36 = .ok (.iload 4, 2) := by decide +kernel
theorem dX5_actsApplyingTo_38 : decode cX5_actsApplyingTo 38 = .ok (.invokestatic 70, 3) := by decide +kernel
theorem dX5_actsApplyingTo_41 : decode cX5_actsApplyingTo 41 = .ok (.ifCond .eq 20, 3) := by decide +kernel
theorem dX5_actsApplyingTo_44 : decode cX5_actsApplyingTo 44 = .ok (.aload 5, 2) := by decide +kernel
theorem dX5_actsApplyingTo_46 : decode cX5_actsApplyingTo 46 = .ok (.getfield 76, 3) := by decide +kernel
theorem dX5_actsApplyingTo_49 : decode cX5_actsApplyingTo 49 = .ok (.iload_n 2, 1) := by decide +kernel
theorem dX5_actsApplyingTo_50 : decode cX5_actsApplyingTo 50 = .ok (.iand, 1) := by decide +kernel
theorem dX5_actsApplyingTo_51 : decode cX5_actsApplyingTo 51 = .ok (.ifCond .ne 10, 3) := by decide +kernel
theorem dX5_actsApplyingTo_54 : decode cX5_actsApplyingTo 54 = .ok (.iload_n 3, 1) := by decide +kernel
theorem dX5_actsApplyingTo_55 : decode cX5_actsApplyingTo 55 = .ok (.iconst 1, 1) := by decide +kernel
theorem dX5_actsApplyingTo_56 : decode cX5_actsApplyingTo 56 = .ok (.iload 4, 2) := by decide +kernel
theorem dX5_actsApplyingTo_58 : decode cX5_actsApplyingTo 58 = .ok (.ishl, 1) := by decide +kernel
theorem dX5_actsApplyingTo_59 : decode cX5_actsApplyingTo 59 = .ok (.ior, 1) := by decide +kernel
theorem dX5_actsApplyingTo_60 : decode cX5_actsApplyingTo 60 = .ok (.istore_n 3, 1) := by decide +kernel
theorem dX5_actsApplyingTo_61 : decode cX5_actsApplyingTo 61 = .ok (.iinc 4 1, 3) := by decide +kernel
theorem dX5_actsApplyingTo_64 : decode cX5_actsApplyingTo 64 = .ok (.goto (-53), 3) := by decide +kernel
theorem dX5_actsApplyingTo_67 : decode cX5_actsApplyingTo 67 = .ok (.iload_n 3, 1) := by decide +kernel
theorem dX5_actsApplyingTo_68 : decode cX5_actsApplyingTo 68 = .ok (.ireturn, 1) := by decide +kernel
theorem dX5_hazardsDemanded_0 : decode cX5_hazardsDemanded 0 = .ok (.aload_n 0, 1) := by decide +kernel
theorem dX5_hazardsDemanded_1 : decode cX5_hazardsDemanded 1 = .ok (.aload_n 1, 1) := by decide +kernel
theorem dX5_hazardsDemanded_2 : decode cX5_hazardsDemanded 2 = .ok (.invokevirtual 245, 3) := by decide +kernel
theorem dX5_hazardsDemanded_5 : decode cX5_hazardsDemanded 5 = .ok (.istore_n 2, 1) := by decide +kernel
theorem dX5_hazardsDemanded_6 : decode cX5_hazardsDemanded 6 = .ok (.iconst 0, 1) := by decide +kernel
theorem dX5_hazardsDemanded_7 : decode cX5_hazardsDemanded 7 = .ok (.istore_n 3, 1) := by decide +kernel
theorem dX5_hazardsDemanded_8 : decode cX5_hazardsDemanded 8 = .ok (.iconst 0, 1) := by decide +kernel
theorem dX5_hazardsDemanded_9 : decode cX5_hazardsDemanded 9 = .ok (.istore 4, 2) := by decide +kernel
theorem dX5_hazardsDemanded_11 : decode cX5_hazardsDemanded 11 = .ok (.iload 4, 2) := by decide +kernel
theorem dX5_hazardsDemanded_13 : decode cX5_hazardsDemanded 13 = .ok (.aload_n 0, 1) := by decide +kernel
theorem dX5_hazardsDemanded_14 : decode cX5_hazardsDemanded 14 = .ok (.getfield 11, 3) := by decide +kernel
theorem dX5_hazardsDemanded_17 : decode cX5_hazardsDemanded 17 = .ok (.arraylength, 1) := by decide +kernel
theorem dX5_hazardsDemanded_18 : decode cX5_hazardsDemanded 18 = .ok (.if_icmp .ge 40, 3) := by decide +kernel
theorem dX5_hazardsDemanded_21 : decode cX5_hazardsDemanded 21 = .ok (.aload_n 0, 1) := by decide +kernel
theorem dX5_hazardsDemanded_22 : decode cX5_hazardsDemanded 22 = .ok (.getfield 11, 3) := by decide +kernel
theorem dX5_hazardsDemanded_25 : decode cX5_hazardsDemanded 25 = .ok (.iload 4, 2) := by decide +kernel
theorem dX5_hazardsDemanded_27 : decode cX5_hazardsDemanded 27 = .ok (.aaload, 1) := by decide +kernel
theorem dX5_hazardsDemanded_28 : decode cX5_hazardsDemanded 28 = .ok (.astore 5, 2) := by decide +kernel
theorem dX5_hazardsDemanded_30 : decode cX5_hazardsDemanded 30 = .ok (.aload 5, 2) := by decide +kernel
theorem dX5_hazardsDemanded_32 : decode cX5_hazardsDemanded 32 = .ok (.ifnull 20, 3) := by decide +kernel
theorem dX5_hazardsDemanded_35 : decode cX5_hazardsDemanded 35 = .ok (.iload_n 2, 1) := by decide +kernel
theorem dX5_hazardsDemanded_36 : decode cX5_hazardsDemanded 36 = .ok (.iload 4, 2) := by decide +kernel
theorem dX5_hazardsDemanded_38 : decode cX5_hazardsDemanded 38 = .ok (.invokestatic 70, 3) := by decide +kernel
theorem dX5_hazardsDemanded_41 : decode cX5_hazardsDemanded 41 = .ok (.ifCond .eq 11, 3) := by decide +kernel
theorem dX5_hazardsDemanded_44 : decode cX5_hazardsDemanded 44 = .ok (.iload_n 3, 1) := by decide +kernel
theorem dX5_hazardsDemanded_45 : decode cX5_hazardsDemanded 45 = .ok (.aload 5, 2) := by decide +kernel
theorem dX5_hazardsDemanded_47 : decode cX5_hazardsDemanded 47 = .ok (.getfield 298, 3) := by decide +kernel
theorem dX5_hazardsDemanded_50 : decode cX5_hazardsDemanded 50 = .ok (.ior, 1) := by decide +kernel
theorem dX5_hazardsDemanded_51 : decode cX5_hazardsDemanded 51 = .ok (.istore_n 3, 1) := by decide +kernel
theorem dX5_hazardsDemanded_52 : decode cX5_hazardsDemanded 52 = .ok (.iinc 4 1, 3) := by decide +kernel
theorem dX5_hazardsDemanded_55 : decode cX5_hazardsDemanded 55 = .ok (.goto (-44), 3) := by decide +kernel
theorem dX5_hazardsDemanded_58 : decode cX5_hazardsDemanded 58 = .ok (.iload_n 3, 1) := by decide +kernel
theorem dX5_hazardsDemanded_59 : decode cX5_hazardsDemanded 59 = .ok (.aload_n 1, 1) := by decide +kernel
theorem dX5_hazardsDemanded_60 : decode cX5_hazardsDemanded 60 = .ok (.iconst 0, 1) := by decide +kernel
theorem dX5_hazardsDemanded_61 : decode cX5_hazardsDemanded 61 = .ok (.invokevirtual 301, 3) := by decide +kernel
theorem dX5_hazardsDemanded_64 : decode cX5_hazardsDemanded 64 = .ok (.iand, 1) := by decide +kernel
theorem dX5_hazardsDemanded_65 : decode cX5_hazardsDemanded 65 = .ok (.ireturn, 1) := by decide +kernel
theorem dX5_hazardsKept_0 : decode cX5_hazardsKept 0 = .ok (.aload_n 1, 1) := by decide +kernel
theorem dX5_hazardsKept_1 : decode cX5_hazardsKept 1 = .ok (.getfield 134, 3) := by decide +kernel
theorem dX5_hazardsKept_4 : decode cX5_hazardsKept 4 = .ok (.istore_n 3, 1) := by decide +kernel
theorem dX5_hazardsKept_5 : decode cX5_hazardsKept 5 = .ok (.iconst 0, 1) := by decide +kernel
theorem dX5_hazardsKept_6 : decode cX5_hazardsKept 6 = .ok (.istore 4, 2) := by decide +kernel
theorem dX5_hazardsKept_8 : decode cX5_hazardsKept 8 = .ok (.iload 4, 2) := by decide +kernel
theorem dX5_hazardsKept_10 : decode cX5_hazardsKept 10 = .ok (.aload_n 0, 1) := by decide +kernel
theorem dX5_hazardsKept_11 : decode cX5_hazardsKept 11 = .ok (.getfield 17, 3) := by decide +kernel
theorem dX5_hazardsKept_14 : decode cX5_hazardsKept 14 = .ok (.arraylength, 1) := by decide +kernel
theorem dX5_hazardsKept_15 : decode cX5_hazardsKept 15 = .ok (.if_icmp .ge 61, 3) := by decide +kernel
theorem dX5_hazardsKept_18 : decode cX5_hazardsKept 18 = .ok (.iload 4, 2) := by decide +kernel
theorem dX5_hazardsKept_20 : decode cX5_hazardsKept 20 = .ok (.aload_n 1, 1) := by decide +kernel
theorem dX5_hazardsKept_21 : decode cX5_hazardsKept 21 = .ok (.getfield 131, 3) := by decide +kernel
theorem dX5_hazardsKept_24 : decode cX5_hazardsKept 24 = .ok (.arraylength, 1) := by decide +kernel
theorem dX5_hazardsKept_25 : decode cX5_hazardsKept 25 = .ok (.if_icmp .ge 51, 3) := by decide +kernel
theorem dX5_hazardsKept_28 : decode cX5_hazardsKept 28 = .ok (.aload_n 0, 1) := by decide +kernel
theorem dX5_hazardsKept_29 : decode cX5_hazardsKept 29 = .ok (.getfield 17, 3) := by decide +kernel
theorem dX5_hazardsKept_32 : decode cX5_hazardsKept 32 = .ok (.iload 4, 2) := by decide +kernel
theorem dX5_hazardsKept_34 : decode cX5_hazardsKept 34 = .ok (.aaload, 1) := by decide +kernel
theorem dX5_hazardsKept_35 : decode cX5_hazardsKept 35 = .ok (.astore 5, 2) := by decide +kernel
theorem dX5_hazardsKept_37 : decode cX5_hazardsKept 37 = .ok (.aload 5, 2) := by decide +kernel
theorem dX5_hazardsKept_39 : decode cX5_hazardsKept 39 = .ok (.ifnull 31, 3) := by decide +kernel
theorem dX5_hazardsKept_42 : decode cX5_hazardsKept 42 = .ok (.aload 5, 2) := by decide +kernel
theorem dX5_hazardsKept_44 : decode cX5_hazardsKept 44 = .ok (.aload_n 0, 1) := by decide +kernel
theorem dX5_hazardsKept_45 : decode cX5_hazardsKept 45 = .ok (.getfield 91, 3) := by decide +kernel
theorem dX5_hazardsKept_48 : decode cX5_hazardsKept 48 = .ok (.invokevirtual 304, 3) := by decide +kernel
theorem dX5_hazardsKept_51 : decode cX5_hazardsKept 51 = .ok (.ifCond .eq 19, 3) := by decide +kernel
theorem dX5_hazardsKept_54 : decode cX5_hazardsKept 54 = .ok (.iload_n 3, 1) := by decide +kernel
theorem dX5_hazardsKept_55 : decode cX5_hazardsKept 55 = .ok (.aload_n 1, 1) := by decide +kernel
theorem dX5_hazardsKept_56 : decode cX5_hazardsKept 56 = .ok (.getfield 131, 3) := by decide +kernel
theorem dX5_hazardsKept_59 : decode cX5_hazardsKept 59 = .ok (.iload 4, 2) := by decide +kernel
theorem dX5_hazardsKept_61 : decode cX5_hazardsKept 61 = .ok (.iaload, 1) := by decide +kernel
theorem dX5_hazardsKept_62 : decode cX5_hazardsKept 62 = .ok (.aload 5, 2) := by decide +kernel
theorem dX5_hazardsKept_64 : decode cX5_hazardsKept 64 = .ok (.getfield 97, 3) := by decide +kernel
theorem dX5_hazardsKept_67 : decode cX5_hazardsKept 67 = .ok (.iand, 1) := by decide +kernel
theorem dX5_hazardsKept_68 : decode cX5_hazardsKept 68 = .ok (.ior, 1) := by decide +kernel
theorem dX5_hazardsKept_69 : decode cX5_hazardsKept 69 = .ok (.istore_n 3, 1) := by decide +kernel
theorem dX5_hazardsKept_70 : decode cX5_hazardsKept 70 = .ok (.iinc 4 1, 3) := by decide +kernel
theorem dX5_hazardsKept_73 : decode cX5_hazardsKept 73 = .ok (.goto (-65), 3) := by decide +kernel
theorem dX5_hazardsKept_76 : decode cX5_hazardsKept 76 = .ok (.iload_n 2, 1) := by decide +kernel
theorem dX5_hazardsKept_77 : decode cX5_hazardsKept 77 = .ok (.iload_n 3, 1) := by decide +kernel
theorem dX5_hazardsKept_78 : decode cX5_hazardsKept 78 = .ok (.iand, 1) := by decide +kernel
theorem dX5_hazardsKept_79 : decode cX5_hazardsKept 79 = .ok (.aload_n 1, 1) := by decide +kernel
theorem dX5_hazardsKept_80 : decode cX5_hazardsKept 80 = .ok (.iconst 4, 1) := by decide +kernel
theorem dX5_hazardsKept_81 : decode cX5_hazardsKept 81 = .ok (.invokevirtual 307, 3) := by decide +kernel
theorem dX5_hazardsKept_84 : decode cX5_hazardsKept 84 = .ok (.iconst (-1), 1) := by decide +kernel
theorem dX5_hazardsKept_85 : decode cX5_hazardsKept 85 = .ok (.ixor, 1) := by decide +kernel
theorem dX5_hazardsKept_86 : decode cX5_hazardsKept 86 = .ok (.iand, 1) := by decide +kernel
theorem dX5_hazardsKept_87 : decode cX5_hazardsKept 87 = .ok (.ireturn, 1) := by decide +kernel
theorem dX5_wayOf_0 : decode cX5_wayOf 0 = .ok (.iload_n 2, 1) := by decide +kernel
theorem dX5_wayOf_1 : decode cX5_wayOf 1 = .ok (.aload_n 1, 1) := by decide +kernel
theorem dX5_wayOf_2 : decode cX5_wayOf 2 = .ok (.bipush 6, 2) := by decide +kernel
theorem dX5_wayOf_4 : decode cX5_wayOf 4 = .ok (.invokevirtual 301, 3) := by decide +kernel
theorem dX5_wayOf_7 : decode cX5_wayOf 7 = .ok (.iand, 1) := by decide +kernel
theorem dX5_wayOf_8 : decode cX5_wayOf 8 = .ok (.ifCond .eq 5, 3) := by decide +kernel
theorem dX5_wayOf_11 : decode cX5_wayOf 11 = .ok (.iconst 2, 1) := by decide +kernel
theorem dX5_wayOf_12 : decode cX5_wayOf 12 = .ok (.ireturn, 1) := by decide +kernel
theorem dX5_wayOf_13 : decode cX5_wayOf 13 = .ok (.iload_n 2, 1) := by decide +kernel
theorem dX5_wayOf_14 : decode cX5_wayOf 14 = .ok (.aload_n 1, 1) := by decide +kernel
theorem dX5_wayOf_15 : decode cX5_wayOf 15 = .ok (.iconst 3, 1) := by decide +kernel
theorem dX5_wayOf_16 : decode cX5_wayOf 16 = .ok (.invokevirtual 301, 3) := by decide +kernel
theorem dX5_wayOf_19 : decode cX5_wayOf 19 = .ok (.iand, 1) := by decide +kernel
theorem dX5_wayOf_20 : decode cX5_wayOf 20 = .ok (.ifCond .eq 7, 3) := by decide +kernel
theorem dX5_wayOf_23 : decode cX5_wayOf 23 = .ok (.iconst 1, 1) := by decide +kernel
theorem dX5_wayOf_24 : decode cX5_wayOf 24 = .ok (.goto 4, 3) := by decide +kernel
theorem dX5_wayOf_27 : decode cX5_wayOf 27 = .ok (.iconst 0, 1) := by decide +kernel
theorem dX5_wayOf_28 : decode cX5_wayOf 28 = .ok (.ireturn, 1) := by decide +kernel
theorem dX5_firstLack_0 : decode cX5_firstLack 0 = .ok (.aload_n 0, 1) := by decide +kernel
theorem dX5_firstLack_1 : decode cX5_firstLack 1 = .ok (.aload_n 1, 1) := by decide +kernel
theorem dX5_firstLack_2 : decode cX5_firstLack 2 = .ok (.invokevirtual 248, 3) := by decide +kernel
theorem dX5_firstLack_5 : decode cX5_firstLack 5 = .ok (.istore_n 2, 1) := by decide +kernel
theorem dX5_firstLack_6 : decode cX5_firstLack 6 = .ok (.aload_n 0, 1) := by decide +kernel
theorem dX5_firstLack_7 : decode cX5_firstLack 7 = .ok (.aload_n 1, 1) := by decide +kernel
theorem dX5_firstLack_8 : decode cX5_firstLack 8 = .ok (.iload_n 2, 1) := by decide +kernel
theorem dX5_firstLack_9 : decode cX5_firstLack 9 = .ok (.invokevirtual 255, 3) := by decide +kernel
theorem dX5_firstLack_12 : decode cX5_firstLack 12 = .ok (.istore_n 3, 1) := by decide +kernel
theorem dX5_firstLack_13 : decode cX5_firstLack 13 = .ok (.aload_n 1, 1) := by decide +kernel
theorem dX5_firstLack_14 : decode cX5_firstLack 14 = .ok (.getfield 234, 3) := by decide +kernel
theorem dX5_firstLack_17 : decode cX5_firstLack 17 = .ok (.invokestatic 237, 3) := by decide +kernel
theorem dX5_firstLack_20 : decode cX5_firstLack 20 = .ok (.iconst 3, 1) := by decide +kernel
theorem dX5_firstLack_21 : decode cX5_firstLack 21 = .ok (.if_icmp .lt 5, 3) := by decide +kernel
theorem dX5_firstLack_24 : decode cX5_firstLack 24 = .ok (.iconst 1, 1) := by decide +kernel
theorem dX5_firstLack_25 : decode cX5_firstLack 25 = .ok (.ireturn, 1) := by decide +kernel
theorem dX5_firstLack_26 : decode cX5_firstLack 26 = .ok (.iload_n 2, 1) := by decide +kernel
theorem dX5_firstLack_27 : decode cX5_firstLack 27 = .ok (.aload_n 1, 1) := by decide +kernel
theorem dX5_firstLack_28 : decode cX5_firstLack 28 = .ok (.iconst 4, 1) := by decide +kernel
theorem dX5_firstLack_29 : decode cX5_firstLack 29 = .ok (.invokevirtual 307, 3) := by decide +kernel
theorem dX5_firstLack_32 : decode cX5_firstLack 32 = .ok (.iand, 1) := by decide +kernel
theorem dX5_firstLack_33 : decode cX5_firstLack 33 = .ok (.ifCond .eq 5, 3) := by decide +kernel
theorem dX5_firstLack_36 : decode cX5_firstLack 36 = .ok (.iconst 2, 1) := by decide +kernel
theorem dX5_firstLack_37 : decode cX5_firstLack 37 = .ok (.ireturn, 1) := by decide +kernel
theorem dX5_firstLack_38 : decode cX5_firstLack 38 = .ok (.aload_n 0, 1) := by decide +kernel
theorem dX5_firstLack_39 : decode cX5_firstLack 39 = .ok (.aload_n 1, 1) := by decide +kernel
theorem dX5_firstLack_40 : decode cX5_firstLack 40 = .ok (.iload_n 2, 1) := by decide +kernel
theorem dX5_firstLack_41 : decode cX5_firstLack 41 = .ok (.invokevirtual 251, 3) := by decide +kernel
theorem dX5_firstLack_44 : decode cX5_firstLack 44 = .ok (.iload_n 2, 1) := by decide +kernel
theorem dX5_firstLack_45 : decode cX5_firstLack 45 = .ok (.if_icmp .eq 5, 3) := by decide +kernel
theorem dX5_firstLack_48 : decode cX5_firstLack 48 = .ok (.iconst 3, 1) := by decide +kernel
theorem dX5_firstLack_49 : decode cX5_firstLack 49 = .ok (.ireturn, 1) := by decide +kernel
theorem dX5_firstLack_50 : decode cX5_firstLack 50 = .ok (.iload_n 3, 1) := by decide +kernel
theorem dX5_firstLack_51 : decode cX5_firstLack 51 = .ok (.ifCond .eq 13, 3) := by decide +kernel
theorem dX5_firstLack_54 : decode cX5_firstLack 54 = .ok (.aload_n 0, 1) := by decide +kernel
theorem dX5_firstLack_55 : decode cX5_firstLack 55 = .ok (.aload_n 1, 1) := by decide +kernel
theorem dX5_firstLack_56 : decode cX5_firstLack 56 = .ok (.invokevirtual 310, 3) := by decide +kernel
theorem dX5_firstLack_59 : decode cX5_firstLack 59 = .ok (.ifCond .ne 5, 3) := by decide +kernel
theorem dX5_firstLack_62 : decode cX5_firstLack 62 = .ok (.iconst 4, 1) := by decide +kernel
theorem dX5_firstLack_63 : decode cX5_firstLack 63 = .ok (.ireturn, 1) := by decide +kernel
theorem dX5_firstLack_64 : decode cX5_firstLack 64 = .ok (.iload_n 3, 1) := by decide +kernel
theorem dX5_firstLack_65 : decode cX5_firstLack 65 = .ok (.iconst 2, 1) := by decide +kernel
theorem dX5_firstLack_66 : decode cX5_firstLack 66 = .ok (.if_icmp .ne 16, 3) := by decide +kernel
theorem dX5_firstLack_69 : decode cX5_firstLack 69 = .ok (.aload_n 1, 1) := by decide +kernel
theorem dX5_firstLack_70 : decode cX5_firstLack 70 = .ok (.aload_n 0, 1) := by decide +kernel
theorem dX5_firstLack_71 : decode cX5_firstLack 71 = .ok (.getfield 91, 3) := by decide +kernel
theorem dX5_firstLack_74 : decode cX5_firstLack 74 = .ok (.invokevirtual 314, 3) := by decide +kernel
theorem dX5_firstLack_77 : decode cX5_firstLack 77 = .ok (.ifCond .ne 5, 3) := by decide +kernel
theorem dX5_firstLack_80 : decode cX5_firstLack 80 = .ok (.iconst 5, 1) := by decide +kernel
theorem dX5_firstLack_81 : decode cX5_firstLack 81 = .ok (.ireturn, 1) := by decide +kernel
theorem dX5_firstLack_82 : decode cX5_firstLack 82 = .ok (.iload_n 2, 1) := by decide +kernel
theorem dX5_firstLack_83 : decode cX5_firstLack 83 = .ok (.ifCond .eq 16, 3) := by decide +kernel
theorem dX5_firstLack_86 : decode cX5_firstLack 86 = .ok (.aload_n 1, 1) := by decide +kernel
theorem dX5_firstLack_87 : decode cX5_firstLack 87 = .ok (.getfield 143, 3) := by decide +kernel
theorem dX5_firstLack_90 : decode cX5_firstLack 90 = .ok (.iconst (-1), 1) := by decide +kernel
theorem dX5_firstLack_91 : decode cX5_firstLack 91 = .ok (.if_icmp .ne 8, 3) := by decide +kernel
theorem dX5_firstLack_94 : decode cX5_firstLack 94 = .ok (.bipush 6, 2) := by decide +kernel
theorem dX5_firstLack_96 : decode cX5_firstLack 96 = .ok (.goto 4, 3) := by decide +kernel
theorem dX5_firstLack_99 : decode cX5_firstLack 99 = .ok (.iconst 0, 1) := by decide +kernel
theorem dX5_firstLack_100 : decode cX5_firstLack 100 = .ok (.ireturn, 1) := by decide +kernel
theorem dX5_holdsCertificate_0 : decode cX5_holdsCertificate 0 = .ok (.aload_n 1, 1) := by decide +kernel
theorem dX5_holdsCertificate_1 : decode cX5_holdsCertificate 1 = .ok (.getfield 169, 3) := by decide +kernel
theorem dX5_holdsCertificate_4 : decode cX5_holdsCertificate 4 = .ok (.astore_n 2, 1) := by decide +kernel
theorem dX5_holdsCertificate_5 : decode cX5_holdsCertificate 5 = .ok (.aload_n 2, 1) := by decide +kernel
theorem dX5_holdsCertificate_6 : decode cX5_holdsCertificate 6 = .ok (.ifnull 41, 3) := by decide +kernel
theorem dX5_holdsCertificate_9 : decode cX5_holdsCertificate 9 = .ok (.aload_n 0, 1) := by decide +kernel
theorem dX5_holdsCertificate_10 : decode cX5_holdsCertificate 10 = .ok (.getfield 91, 3) := by decide +kernel
theorem dX5_holdsCertificate_13 : decode cX5_holdsCertificate 13 = .ok (.aload_n 1, 1) := by decide +kernel
theorem dX5_holdsCertificate_14 : decode cX5_holdsCertificate 14 = .ok (.getfield 173, 3) := by decide +kernel
theorem dX5_holdsCertificate_17 : decode cX5_holdsCertificate 17 = .ok (.if_icmp .gt 30, 3) := by decide +kernel
theorem dX5_holdsCertificate_20 : decode cX5_holdsCertificate 20 = .ok (.aload_n 2, 1) := by decide +kernel
theorem dX5_holdsCertificate_21 : decode cX5_holdsCertificate 21 = .ok (.aload_n 0, 1) := by decide +kernel
theorem dX5_holdsCertificate_22 : decode cX5_holdsCertificate 22 = .ok (.aload_n 1, 1) := by decide +kernel
theorem dX5_holdsCertificate_23 : decode cX5_holdsCertificate 23 = .ok (.invokevirtual 245, 3) := by decide +kernel
theorem dX5_holdsCertificate_26 : decode cX5_holdsCertificate 26 = .ok (.invokevirtual 287, 3) := by decide +kernel
theorem dX5_holdsCertificate_29 : decode cX5_holdsCertificate 29 = .ok (.ifCond .eq 18, 3) := by decide +kernel
theorem dX5_holdsCertificate_32 : decode cX5_holdsCertificate 32 = .ok (.aload_n 2, 1) := by decide +kernel
theorem dX5_holdsCertificate_33 : decode cX5_holdsCertificate 33 = .ok (.aload_n 0, 1) := by decide +kernel
theorem dX5_holdsCertificate_34 : decode cX5_holdsCertificate 34 = .ok (.getfield 91, 3) := by decide +kernel
theorem dX5_holdsCertificate_37 : decode cX5_holdsCertificate 37 = .ok (.invokevirtual 317, 3) := by decide +kernel
theorem dX5_holdsCertificate_40 : decode cX5_holdsCertificate 40 = .ok (.ifCond .eq 7, 3) := by decide +kernel
theorem dX5_holdsCertificate_43 : decode cX5_holdsCertificate 43 = .ok (.iconst 1, 1) := by decide +kernel
theorem dX5_holdsCertificate_44 : decode cX5_holdsCertificate 44 = .ok (.goto 4, 3) := by decide +kernel
theorem dX5_holdsCertificate_47 : decode cX5_holdsCertificate 47 = .ok (.iconst 0, 1) := by decide +kernel
theorem dX5_holdsCertificate_48 : decode cX5_holdsCertificate 48 = .ok (.ireturn, 1) := by decide +kernel
theorem dX5_addBatch_0 : decode cX5_addBatch 0 = .ok (.aload_n 0, 1) := by decide +kernel
theorem dX5_addBatch_1 : decode cX5_addBatch 1 = .ok (.getfield 320, 3) := by decide +kernel
theorem dX5_addBatch_4 : decode cX5_addBatch 4 = .ok (.ifCond .lt 15, 3) := by decide +kernel
theorem dX5_addBatch_7 : decode cX5_addBatch 7 = .ok (.aload_n 0, 1) := by decide +kernel
theorem dX5_addBatch_8 : decode cX5_addBatch 8 = .ok (.getfield 320, 3) := by decide +kernel
theorem dX5_addBatch_11 : decode cX5_addBatch 11 = .ok (.aload_n 0, 1) := by decide +kernel
theorem dX5_addBatch_12 : decode cX5_addBatch 12 = .ok (.getfield 35, 3) := by decide +kernel
theorem dX5_addBatch_15 : decode cX5_addBatch 15 = .ok (.arraylength, 1) := by decide +kernel
theorem dX5_addBatch_16 : decode cX5_addBatch 16 = .ok (.if_icmp .lt 14, 3) := by decide +kernel
theorem dX5_addBatch_19 : decode cX5_addBatch 19 = .ok (.new 47, 3) := by decide +kernel
theorem dX5_addBatch_22 : decode cX5_addBatch 22 = .ok (.dup, 1) := by decide +kernel
theorem dX5_addBatch_23 : decode cX5_addBatch 23 = .ok (.ldc_w 323, 3) := by decide +kernel
theorem dX5_addBatch_26 : decode cX5_addBatch 26 = .ok (.invokespecial 51, 3) := by decide +kernel
theorem dX5_addBatch_29 : decode cX5_addBatch 29 = .ok (.athrow, 1) := by decide +kernel
theorem dX5_addBatch_30 : decode cX5_addBatch 30 = .ok (.aload_n 0, 1) := by decide +kernel
theorem dX5_addBatch_31 : decode cX5_addBatch 31 = .ok (.getfield 35, 3) := by decide +kernel
theorem dX5_addBatch_34 : decode cX5_addBatch 34 = .ok (.aload_n 0, 1) := by decide +kernel
theorem dX5_addBatch_35 : decode cX5_addBatch 35 = .ok (.getfield 320, 3) := by decide +kernel
theorem dX5_addBatch_38 : decode cX5_addBatch 38 = .ok (.new 33, 3) := by decide +kernel
theorem dX5_addBatch_41 : decode cX5_addBatch 41 = .ok (.dup, 1) := by decide +kernel
theorem dX5_addBatch_42 : decode cX5_addBatch 42 = .ok (.iload_n 1, 1) := by decide +kernel
theorem dX5_addBatch_43 : decode cX5_addBatch 43 = .ok (.iload_n 3, 1) := by decide +kernel
theorem dX5_addBatch_44 : decode cX5_addBatch 44 = .ok (.aload_n 0, 1) := by decide +kernel
theorem dX5_addBatch_45 : decode cX5_addBatch 45 = .ok (.getfield 91, 3) := by decide +kernel
theorem dX5_addBatch_48 : decode cX5_addBatch 48 = .ok (.aload_n 2, 1) := by decide +kernel
theorem dX5_addBatch_49 : decode cX5_addBatch 49 = .ok (.getfield 118, 3) := by decide +kernel
theorem dX5_addBatch_52 : decode cX5_addBatch 52 = .ok (.aload_n 0, 1) := by decide +kernel
theorem dX5_addBatch_53 : decode cX5_addBatch 53 = .ok (.aload_n 2, 1) := by decide +kernel
theorem dX5_addBatch_54 : decode cX5_addBatch 54 = .ok (.invokevirtual 137, 3) := by decide +kernel
theorem dX5_addBatch_57 : decode cX5_addBatch 57 = .ok (.invokespecial 325, 3) := by decide +kernel
theorem dX5_addBatch_60 : decode cX5_addBatch 60 = .ok (.aastore, 1) := by decide +kernel
theorem dX5_addBatch_61 : decode cX5_addBatch 61 = .ok (.aload_n 0, 1) := by decide +kernel
theorem dX5_addBatch_62 : decode cX5_addBatch 62 = .ok (.dup, 1) := by decide +kernel
theorem dX5_addBatch_63 : decode cX5_addBatch 63 = .ok (.getfield 320, 3) := by decide +kernel
theorem dX5_addBatch_66 : decode cX5_addBatch 66 = .ok (.dup_x1, 1) := by decide +kernel
theorem dX5_addBatch_67 : decode cX5_addBatch 67 = .ok (.iconst 1, 1) := by decide +kernel
theorem dX5_addBatch_68 : decode cX5_addBatch 68 = .ok (.iadd, 1) := by decide +kernel
theorem dX5_addBatch_69 : decode cX5_addBatch 69 = .ok (.putfield 320, 3) := by decide +kernel
theorem dX5_addBatch_72 : decode cX5_addBatch 72 = .ok (.ireturn, 1) := by decide +kernel
theorem dX5_unitsOnMarket_0 : decode cX5_unitsOnMarket 0 = .ok (.iconst 0, 1) := by decide +kernel
theorem dX5_unitsOnMarket_1 : decode cX5_unitsOnMarket 1 = .ok (.istore_n 2, 1) := by decide +kernel
theorem dX5_unitsOnMarket_2 : decode cX5_unitsOnMarket 2 = .ok (.aload_n 0, 1) := by decide +kernel
theorem dX5_unitsOnMarket_3 : decode cX5_unitsOnMarket 3 = .ok (.getfield 35, 3) := by decide +kernel
theorem dX5_unitsOnMarket_6 : decode cX5_unitsOnMarket 6 = .ok (.astore_n 3, 1) := by decide +kernel
theorem dX5_unitsOnMarket_7 : decode cX5_unitsOnMarket 7 = .ok (.aload_n 3, 1) := by decide +kernel
theorem dX5_unitsOnMarket_8 : decode cX5_unitsOnMarket 8 = .ok (.arraylength, 1) := by decide +kernel
theorem dX5_unitsOnMarket_9 : decode cX5_unitsOnMarket 9 = .ok (.istore 4, 2) := by decide +kernel
theorem dX5_unitsOnMarket_11 : decode cX5_unitsOnMarket 11 = .ok (.iconst 0, 1) := by decide +kernel
theorem dX5_unitsOnMarket_12 : decode cX5_unitsOnMarket 12 = .ok (.istore 5, 2) := by decide +kernel
theorem dX5_unitsOnMarket_14 : decode cX5_unitsOnMarket 14 = .ok (.iload 5, 2) := by decide +kernel
theorem dX5_unitsOnMarket_16 : decode cX5_unitsOnMarket 16 = .ok (.iload 4, 2) := by decide +kernel
theorem dX5_unitsOnMarket_18 : decode cX5_unitsOnMarket 18 = .ok (.if_icmp .ge 37, 3) := by decide +kernel
theorem dX5_unitsOnMarket_21 : decode cX5_unitsOnMarket 21 = .ok (.aload_n 3, 1) := by decide +kernel
theorem dX5_unitsOnMarket_22 : decode cX5_unitsOnMarket 22 = .ok (.iload 5, 2) := by decide +kernel
theorem dX5_unitsOnMarket_24 : decode cX5_unitsOnMarket 24 = .ok (.aaload, 1) := by decide +kernel
theorem dX5_unitsOnMarket_25 : decode cX5_unitsOnMarket 25 = .ok (.astore 6, 2) := by decide +kernel
theorem dX5_unitsOnMarket_27 : decode cX5_unitsOnMarket 27 = .ok (.aload 6, 2) := by decide +kernel
theorem dX5_unitsOnMarket_29 : decode cX5_unitsOnMarket 29 = .ok (.ifnull 20, 3) := by decide +kernel
theorem dX5_unitsOnMarket_32 : decode cX5_unitsOnMarket 32 = .ok (.aload 6, 2) := by decide +kernel
theorem dX5_unitsOnMarket_34 : decode cX5_unitsOnMarket 34 = .ok (.iload_n 1, 1) := by decide +kernel
theorem dX5_unitsOnMarket_35 : decode cX5_unitsOnMarket 35 = .ok (.invokevirtual 219, 3) := by decide +kernel
theorem dX5_unitsOnMarket_38 : decode cX5_unitsOnMarket 38 = .ok (.ifCond .eq 11, 3) := by decide +kernel
theorem dX5_unitsOnMarket_41 : decode cX5_unitsOnMarket 41 = .ok (.iload_n 2, 1) := by decide +kernel
theorem dX5_unitsOnMarket_42 : decode cX5_unitsOnMarket 42 = .ok (.aload 6, 2) := by decide +kernel
theorem dX5_unitsOnMarket_44 : decode cX5_unitsOnMarket 44 = .ok (.getfield 226, 3) := by decide +kernel
theorem dX5_unitsOnMarket_47 : decode cX5_unitsOnMarket 47 = .ok (.iadd, 1) := by decide +kernel
theorem dX5_unitsOnMarket_48 : decode cX5_unitsOnMarket 48 = .ok (.istore_n 2, 1) := by decide +kernel
theorem dX5_unitsOnMarket_49 : decode cX5_unitsOnMarket 49 = .ok (.iinc 5 1, 3) := by decide +kernel
theorem dX5_unitsOnMarket_52 : decode cX5_unitsOnMarket 52 = .ok (.goto (-38), 3) := by decide +kernel
theorem dX5_unitsOnMarket_55 : decode cX5_unitsOnMarket 55 = .ok (.iload_n 2, 1) := by decide +kernel
theorem dX5_unitsOnMarket_56 : decode cX5_unitsOnMarket 56 = .ok (.ireturn, 1) := by decide +kernel
theorem dX6_init_0 : decode cX6_init 0 = .ok (.aload_n 0, 1) := by decide +kernel
theorem dX6_init_1 : decode cX6_init 1 = .ok (.invokespecial 1, 3) := by decide +kernel
theorem dX6_init_4 : decode cX6_init 4 = .ok (.aload_n 0, 1) := by decide +kernel
theorem dX6_init_5 : decode cX6_init 5 = .ok (.bipush 6, 2) := by decide +kernel
theorem dX6_init_7 : decode cX6_init 7 = .ok (.newarray .int, 2) := by decide +kernel
theorem dX6_init_9 : decode cX6_init 9 = .ok (.putfield 7, 3) := by decide +kernel
theorem dX6_init_12 : decode cX6_init 12 = .ok (.aload_n 0, 1) := by decide +kernel
theorem dX6_init_13 : decode cX6_init 13 = .ok (.bipush 6, 2) := by decide +kernel
theorem dX6_init_15 : decode cX6_init 15 = .ok (.newarray .int, 2) := by decide +kernel
theorem dX6_init_17 : decode cX6_init 17 = .ok (.putfield 13, 3) := by decide +kernel
theorem dX6_init_20 : decode cX6_init 20 = .ok (.aload_n 0, 1) := by decide +kernel
theorem dX6_init_21 : decode cX6_init 21 = .ok (.bipush 6, 2) := by decide +kernel
theorem dX6_init_23 : decode cX6_init 23 = .ok (.newarray .int, 2) := by decide +kernel
theorem dX6_init_25 : decode cX6_init 25 = .ok (.putfield 16, 3) := by decide +kernel
theorem dX6_init_28 : decode cX6_init 28 = .ok (.aload_n 0, 1) := by decide +kernel
theorem dX6_init_29 : decode cX6_init 29 = .ok (.bipush 6, 2) := by decide +kernel
theorem dX6_init_31 : decode cX6_init 31 = .ok (.newarray .int, 2) := by decide +kernel
theorem dX6_init_33 : decode cX6_init 33 = .ok (.putfield 19, 3) := by decide +kernel
theorem dX6_init_36 : decode cX6_init 36 = .ok (.aload_n 0, 1) := by decide +kernel
theorem dX6_init_37 : decode cX6_init 37 = .ok (.bipush 36, 2) := by decide +kernel
theorem dX6_init_39 : decode cX6_init 39 = .ok (.newarray .boolean, 2) := by decide +kernel
theorem dX6_init_41 : decode cX6_init 41 = .ok (.putfield 22, 3) := by decide +kernel
theorem dX6_init_44 : decode cX6_init 44 = .ok (.aload_n 0, 1) := by decide +kernel
theorem dX6_init_45 : decode cX6_init 45 = .ok (.bipush 6, 2) := by decide +kernel
theorem dX6_init_47 : decode cX6_init 47 = .ok (.newarray .boolean, 2) := by decide +kernel
theorem dX6_init_49 : decode cX6_init 49 = .ok (.putfield 26, 3) := by decide +kernel
theorem dX6_init_52 : decode cX6_init 52 = .ok (.aload_n 0, 1) := by decide +kernel
theorem dX6_init_53 : decode cX6_init 53 = .ok (.bipush 12, 2) := by decide +kernel
theorem dX6_init_55 : decode cX6_init 55 = .ok (.newarray .int, 2) := by decide +kernel
theorem dX6_init_57 : decode cX6_init 57 = .ok (.putfield 29, 3) := by decide +kernel
theorem dX6_init_60 : decode cX6_init 60 = .ok (.aload_n 0, 1) := by decide +kernel
theorem dX6_init_61 : decode cX6_init 61 = .ok (.bipush 12, 2) := by decide +kernel
theorem dX6_init_63 : decode cX6_init 63 = .ok (.newarray .int, 2) := by decide +kernel
theorem dX6_init_65 : decode cX6_init 65 = .ok (.putfield 32, 3) := by decide +kernel
theorem dX6_init_68 : decode cX6_init 68 = .ok (.aload_n 0, 1) := by decide +kernel
theorem dX6_init_69 : decode cX6_init 69 = .ok (.bipush 12, 2) := by decide +kernel
theorem dX6_init_71 : decode cX6_init 71 = .ok (.newarray .int, 2) := by decide +kernel
theorem dX6_init_73 : decode cX6_init 73 = .ok (.putfield 35, 3) := by decide +kernel
theorem dX6_init_76 : decode cX6_init 76 = .ok (.aload_n 0, 1) := by decide +kernel
theorem dX6_init_77 : decode cX6_init 77 = .ok (.bipush 10, 2) := by decide +kernel
theorem dX6_init_79 : decode cX6_init 79 = .ok (.newarray .int, 2) := by decide +kernel
theorem dX6_init_81 : decode cX6_init 81 = .ok (.putfield 38, 3) := by decide +kernel
theorem dX6_init_84 : decode cX6_init 84 = .ok (.aload_n 0, 1) := by decide +kernel
theorem dX6_init_85 : decode cX6_init 85 = .ok (.bipush 10, 2) := by decide +kernel
theorem dX6_init_87 : decode cX6_init 87 = .ok (.newarray .int, 2) := by decide +kernel
theorem dX6_init_89 : decode cX6_init 89 = .ok (.putfield 41, 3) := by decide +kernel
theorem dX6_init_92 : decode cX6_init 92 = .ok (.aload_n 0, 1) := by decide +kernel
theorem dX6_init_93 : decode cX6_init 93 = .ok (.bipush 80, 2) := by decide +kernel
theorem dX6_init_95 : decode cX6_init 95 = .ok (.newarray .int, 2) := by decide +kernel
theorem dX6_init_97 : decode cX6_init 97 = .ok (.putfield 44, 3) := by decide +kernel
theorem dX6_init_100 : decode cX6_init 100 = .ok (.aload_n 0, 1) := by decide +kernel
theorem dX6_init_101 : decode cX6_init 101 = .ok (.bipush 80, 2) := by decide +kernel
theorem dX6_init_103 : decode cX6_init 103 = .ok (.newarray .int, 2) := by decide +kernel
theorem dX6_init_105 : decode cX6_init 105 = .ok (.putfield 47, 3) := by decide +kernel
theorem dX6_init_108 : decode cX6_init 108 = .ok (.aload_n 0, 1) := by decide +kernel
theorem dX6_init_109 : decode cX6_init 109 = .ok (.bipush 120, 2) := by decide +kernel
theorem dX6_init_111 : decode cX6_init 111 = .ok (.newarray .int, 2) := by decide +kernel
theorem dX6_init_113 : decode cX6_init 113 = .ok (.putfield 50, 3) := by decide +kernel
theorem dX6_init_116 : decode cX6_init 116 = .ok (.aload_n 0, 1) := by decide +kernel
theorem dX6_init_117 : decode cX6_init 117 = .ok (.bipush 10, 2) := by decide +kernel
theorem dX6_init_119 : decode cX6_init 119 = .ok (.newarray .int, 2) := by decide +kernel
theorem dX6_init_121 : decode cX6_init 121 = .ok (.putfield 53, 3) := by decide +kernel
theorem dX6_init_124 : decode cX6_init 124 = .ok (.aload_n 0, 1) := by decide +kernel
theorem dX6_init_125 : decode cX6_init 125 = .ok (.bipush 10, 2) := by decide +kernel
theorem dX6_init_127 : decode cX6_init 127 = .ok (.newarray .int, 2) := by decide +kernel
theorem dX6_init_129 : decode cX6_init 129 = .ok (.putfield 56, 3) := by decide +kernel
theorem dX6_init_132 : decode cX6_init 132 = .ok (.aload_n 0, 1) := by decide +kernel
theorem dX6_init_133 : decode cX6_init 133 = .ok (.bipush 10, 2) := by decide +kernel
theorem dX6_init_135 : decode cX6_init 135 = .ok (.newarray .int, 2) := by decide +kernel
theorem dX6_init_137 : decode cX6_init 137 = .ok (.putfield 59, 3) := by decide +kernel
theorem dX6_init_140 : decode cX6_init 140 = .ok (.aload_n 0, 1) := by decide +kernel
theorem dX6_init_141 : decode cX6_init 141 = .ok (.bipush 10, 2) := by decide +kernel
theorem dX6_init_143 : decode cX6_init 143 = .ok (.newarray .int, 2) := by decide +kernel
theorem dX6_init_145 : decode cX6_init 145 = .ok (.putfield 62, 3) := by decide +kernel
theorem dX6_init_148 : decode cX6_init 148 = .ok (.aload_n 0, 1) := by decide +kernel
theorem dX6_init_149 : decode cX6_init 149 = .ok (.bipush 10, 2) := by decide +kernel
theorem dX6_init_151 : decode cX6_init 151 = .ok (.newarray .int, 2) := by decide +kernel
theorem dX6_init_153 : decode cX6_init 153 = .ok (.putfield 65, 3) := by decide +kernel
theorem dX6_init_156 : decode cX6_init 156 = .ok (.aload_n 0, 1) := by decide +kernel
theorem dX6_init_157 : decode cX6_init 157 = .ok (.bipush 10, 2) := by decide +kernel
theorem dX6_init_159 : decode cX6_init 159 = .ok (.newarray .int, 2) := by decide +kernel
theorem dX6_init_161 : decode cX6_init 161 = .ok (.putfield 68, 3) := by decide +kernel
theorem dX6_init_164 : decode cX6_init 164 = .ok (.aload_n 0, 1) := by decide +kernel
theorem dX6_init_165 : decode cX6_init 165 = .ok (.iconst 5, 1) := by decide +kernel
theorem dX6_init_166 : decode cX6_init 166 = .ok (.newarray .int, 2) := by decide +kernel
theorem dX6_init_168 : decode cX6_init 168 = .ok (.putfield 71, 3) := by decide +kernel
theorem dX6_init_171 : decode cX6_init 171 = .ok (.aload_n 0, 1) := by decide +kernel
theorem dX6_init_172 : decode cX6_init 172 = .ok (.iconst 5, 1) := by decide +kernel
theorem dX6_init_173 : decode cX6_init 173 = .ok (.newarray .int, 2) := by decide +kernel
theorem dX6_init_175 : decode cX6_init 175 = .ok (.putfield 74, 3) := by decide +kernel
theorem dX6_init_178 : decode cX6_init 178 = .ok (.aload_n 0, 1) := by decide +kernel
theorem dX6_init_179 : decode cX6_init 179 = .ok (.bipush 40, 2) := by decide +kernel
theorem dX6_init_181 : decode cX6_init 181 = .ok (.newarray .int, 2) := by decide +kernel
theorem dX6_init_183 : decode cX6_init 183 = .ok (.putfield 77, 3) := by decide +kernel
theorem dX6_init_186 : decode cX6_init 186 = .ok (.aload_n 0, 1) := by decide +kernel
theorem dX6_init_187 : decode cX6_init 187 = .ok (.bipush 40, 2) := by decide +kernel
theorem dX6_init_189 : decode cX6_init 189 = .ok (.newarray .int, 2) := by decide +kernel
theorem dX6_init_191 : decode cX6_init 191 = .ok (.putfield 80, 3) := by decide +kernel
theorem dX6_init_194 : decode cX6_init 194 = .ok (.aload_n 0, 1) := by decide +kernel
theorem dX6_init_195 : decode cX6_init 195 = .ok (.bipush 40, 2) := by decide +kernel
theorem dX6_init_197 : decode cX6_init 197 = .ok (.newarray .int, 2) := by decide +kernel
theorem dX6_init_199 : decode cX6_init 199 = .ok (.putfield 83, 3) := by decide +kernel
theorem dX6_init_202 : decode cX6_init 202 = .ok (.aload_n 0, 1) := by decide +kernel
theorem dX6_init_203 : decode cX6_init 203 = .ok (.bipush 40, 2) := by decide +kernel
theorem dX6_init_205 : decode cX6_init 205 = .ok (.newarray .int, 2) := by decide +kernel
theorem dX6_init_207 : decode cX6_init 207 = .ok (.putfield 86, 3) := by decide +kernel
theorem dX6_init_210 : decode cX6_init 210 = .ok (.aload_n 0, 1) := by decide +kernel
theorem dX6_init_211 : decode cX6_init 211 = .ok (.bipush 40, 2) := by decide +kernel
theorem dX6_init_213 : decode cX6_init 213 = .ok (.newarray .int, 2) := by decide +kernel
theorem dX6_init_215 : decode cX6_init 215 = .ok (.putfield 89, 3) := by decide +kernel
theorem dX6_init_218 : decode cX6_init 218 = .ok (.aload_n 0, 1) := by decide +kernel
theorem dX6_init_219 : decode cX6_init 219 = .ok (.bipush 40, 2) := by decide +kernel
theorem dX6_init_221 : decode cX6_init 221 = .ok (.newarray .int, 2) := by decide +kernel
theorem dX6_init_223 : decode cX6_init 223 = .ok (.putfield 92, 3) := by decide +kernel
theorem dX6_init_226 : decode cX6_init 226 = .ok (.aload_n 0, 1) := by decide +kernel
theorem dX6_init_227 : decode cX6_init 227 = .ok (.bipush 40, 2) := by decide +kernel
theorem dX6_init_229 : decode cX6_init 229 = .ok (.newarray .int, 2) := by decide +kernel
theorem dX6_init_231 : decode cX6_init 231 = .ok (.putfield 95, 3) := by decide +kernel
theorem dX6_init_234 : decode cX6_init 234 = .ok (.aload_n 0, 1) := by decide +kernel
theorem dX6_init_235 : decode cX6_init 235 = .ok (.bipush 40, 2) := by decide +kernel
theorem dX6_init_237 : decode cX6_init 237 = .ok (.newarray .int, 2) := by decide +kernel
theorem dX6_init_239 : decode cX6_init 239 = .ok (.putfield 98, 3) := by decide +kernel
theorem dX6_init_242 : decode cX6_init 242 = .ok (.aload_n 0, 1) := by decide +kernel
theorem dX6_init_243 : decode cX6_init 243 = .ok (.bipush 40, 2) := by decide +kernel
theorem dX6_init_245 : decode cX6_init 245 = .ok (.newarray .int, 2) := by decide +kernel
theorem dX6_init_247 : decode cX6_init 247 = .ok (.putfield 101, 3) := by decide +kernel
theorem dX6_init_250 : decode cX6_init 250 = .ok (.return_, 1) := by decide +kernel
theorem dX6_thrown_0 : decode cX6_thrown 0 = .ok (.aload_n 0, 1) := by decide +kernel
theorem dX6_thrown_1 : decode cX6_thrown 1 = .ok (.getfield 104, 3) := by decide +kernel
theorem dX6_thrown_4 : decode cX6_thrown 4 = .ok (.ireturn, 1) := by decide +kernel
theorem dX6_in_0 : decode cX6_in 0 = .ok (.iload_n 0, 1) := by decide +kernel
theorem dX6_in_1 : decode cX6_in 1 = .ok (.iload_n 1, 1) := by decide +kernel
theorem dX6_in_2 : decode cX6_in 2 = .ok (.if_icmp .lt 12, 3) := by decide +kernel
theorem dX6_in_5 : decode cX6_in 5 = .ok (.iload_n 0, 1) := by decide +kernel
theorem dX6_in_6 : decode cX6_in 6 = .ok (.iload_n 2, 1) := by decide +kernel
theorem dX6_in_7 : decode cX6_in 7 = .ok (.if_icmp .gt 7, 3) := by decide +kernel
theorem dX6_in_10 : decode cX6_in 10 = .ok (.iconst 1, 1) := by decide +kernel
theorem dX6_in_11 : decode cX6_in 11 = .ok (.goto 4, 3) := by decide +kernel
theorem dX6_in_14 : decode cX6_in 14 = .ok (.iconst 0, 1) := by decide +kernel
theorem dX6_in_15 : decode cX6_in 15 = .ok (.ireturn, 1) := by decide +kernel
theorem dX6_refused_0 : decode cX6_refused 0 = .ok (.aload_n 0, 1) := by decide +kernel
theorem dX6_refused_1 : decode cX6_refused 1 = .ok (.iload_n 1, 1) := by decide +kernel
theorem dX6_refused_2 : decode cX6_refused 2 = .ok (.putfield 104, 3) := by decide +kernel
theorem dX6_refused_5 : decode cX6_refused 5 = .ok (.iload_n 1, 1) := by decide +kernel
theorem dX6_refused_6 : decode cX6_refused 6 = .ok (.ifCond .eq 7, 3) := by decide +kernel
theorem dX6_refused_9 : decode cX6_refused 9 = .ok (.iconst 1, 1) := by decide +kernel
theorem dX6_refused_10 : decode cX6_refused 10 = .ok (.goto 4, 3) := by decide +kernel
theorem dX6_refused_13 : decode cX6_refused 13 = .ok (.iconst 0, 1) := by decide +kernel
theorem dX6_refused_14 : decode cX6_refused 14 = .ok (.ireturn, 1) := by decide +kernel
theorem dX6_isAct_0 : decode cX6_isAct 0 = .ok (.iload_n 1, 1) := by decide +kernel
theorem dX6_isAct_1 : decode cX6_isAct 1 = .ok (.iconst 0, 1) := by decide +kernel
theorem dX6_isAct_2 : decode cX6_isAct 2 = .ok (.aload_n 0, 1) := by decide +kernel
theorem dX6_isAct_3 : decode cX6_isAct 3 = .ok (.getfield 108, 3) := by decide +kernel
theorem dX6_isAct_6 : decode cX6_isAct 6 = .ok (.iconst 1, 1) := by decide +kernel
theorem dX6_isAct_7 : decode cX6_isAct 7 = .ok (.isub, 1) := by decide +kernel
theorem dX6_isAct_8 : decode cX6_isAct 8 = .ok (.invokestatic 111, 3) := by decide +kernel
theorem dX6_isAct_11 : decode cX6_isAct 11 = .ok (.ireturn, 1) := by decide +kernel
theorem dX6_isStandard_0 : decode cX6_isStandard 0 = .ok (.iload_n 1, 1) := by decide +kernel
theorem dX6_isStandard_1 : decode cX6_isStandard 1 = .ok (.iconst 0, 1) := by decide +kernel
theorem dX6_isStandard_2 : decode cX6_isStandard 2 = .ok (.aload_n 0, 1) := by decide +kernel
theorem dX6_isStandard_3 : decode cX6_isStandard 3 = .ok (.getfield 115, 3) := by decide +kernel
theorem dX6_isStandard_6 : decode cX6_isStandard 6 = .ok (.iconst 1, 1) := by decide +kernel
theorem dX6_isStandard_7 : decode cX6_isStandard 7 = .ok (.isub, 1) := by decide +kernel
theorem dX6_isStandard_8 : decode cX6_isStandard 8 = .ok (.invokestatic 111, 3) := by decide +kernel
theorem dX6_isStandard_11 : decode cX6_isStandard 11 = .ok (.ireturn, 1) := by decide +kernel
theorem dX6_isProduct_0 : decode cX6_isProduct 0 = .ok (.iload_n 1, 1) := by decide +kernel
theorem dX6_isProduct_1 : decode cX6_isProduct 1 = .ok (.iconst 0, 1) := by decide +kernel
theorem dX6_isProduct_2 : decode cX6_isProduct 2 = .ok (.aload_n 0, 1) := by decide +kernel
theorem dX6_isProduct_3 : decode cX6_isProduct 3 = .ok (.getfield 118, 3) := by decide +kernel
theorem dX6_isProduct_6 : decode cX6_isProduct 6 = .ok (.iconst 1, 1) := by decide +kernel
theorem dX6_isProduct_7 : decode cX6_isProduct 7 = .ok (.isub, 1) := by decide +kernel
theorem dX6_isProduct_8 : decode cX6_isProduct 8 = .ok (.invokestatic 111, 3) := by decide +kernel
theorem dX6_isProduct_11 : decode cX6_isProduct 11 = .ok (.ireturn, 1) := by decide +kernel
theorem dX6_isBody_0 : decode cX6_isBody 0 = .ok (.iload_n 1, 1) := by decide +kernel
theorem dX6_isBody_1 : decode cX6_isBody 1 = .ok (.iconst 0, 1) := by decide +kernel
theorem dX6_isBody_2 : decode cX6_isBody 2 = .ok (.aload_n 0, 1) := by decide +kernel
theorem dX6_isBody_3 : decode cX6_isBody 3 = .ok (.getfield 121, 3) := by decide +kernel
theorem dX6_isBody_6 : decode cX6_isBody 6 = .ok (.iconst 1, 1) := by decide +kernel
theorem dX6_isBody_7 : decode cX6_isBody 7 = .ok (.isub, 1) := by decide +kernel
theorem dX6_isBody_8 : decode cX6_isBody 8 = .ok (.invokestatic 111, 3) := by decide +kernel
theorem dX6_isBody_11 : decode cX6_isBody 11 = .ok (.ireturn, 1) := by decide +kernel
theorem dX6_isBatch_0 : decode cX6_isBatch 0 = .ok (.iload_n 1, 1) := by decide +kernel
theorem dX6_isBatch_1 : decode cX6_isBatch 1 = .ok (.iconst 0, 1) := by decide +kernel
theorem dX6_isBatch_2 : decode cX6_isBatch 2 = .ok (.aload_n 0, 1) := by decide +kernel
theorem dX6_isBatch_3 : decode cX6_isBatch 3 = .ok (.getfield 124, 3) := by decide +kernel
theorem dX6_isBatch_6 : decode cX6_isBatch 6 = .ok (.iconst 1, 1) := by decide +kernel
theorem dX6_isBatch_7 : decode cX6_isBatch 7 = .ok (.isub, 1) := by decide +kernel
theorem dX6_isBatch_8 : decode cX6_isBatch 8 = .ok (.invokestatic 111, 3) := by decide +kernel
theorem dX6_isBatch_11 : decode cX6_isBatch 11 = .ok (.ireturn, 1) := by decide +kernel
theorem dX6_bits_0 : decode cX6_bits 0 = .ok (.iconst 0, 1) := by decide +kernel
theorem dX6_bits_1 : decode cX6_bits 1 = .ok (.istore_n 1, 1) := by decide +kernel
theorem dX6_bits_2 : decode cX6_bits 2 = .ok (.iconst 0, 1) := by decide +kernel
theorem dX6_bits_3 : decode cX6_bits 3 = .ok (.istore_n 2, 1) := by decide +kernel
theorem dX6_bits_4 : decode cX6_bits 4 = .ok (.iload_n 2, 1) := by decide +kernel
theorem dX6_bits_5 : decode cX6_bits 5 = .ok (.bipush 8, 2) := by decide +kernel
theorem dX6_bits_7 : decode cX6_bits 7 = .ok (.if_icmp .ge 17, 3) := by decide +kernel
theorem dX6_bits_10 : decode cX6_bits 10 = .ok (.iload_n 1, 1) := by decide +kernel
theorem dX6_bits_11 : decode cX6_bits 11 = .ok (.iload_n 0, 1) := by decide +kernel
theorem dX6_bits_12 : decode cX6_bits 12 = .ok (.iload_n 2, 1) := by decide +kernel
theorem dX6_bits_13 : decode cX6_bits 13 = .ok (.ishr, 1) := by decide +kernel
theorem dX6_bits_14 : decode cX6_bits 14 = .ok (.iconst 1, 1) := by decide +kernel
theorem dX6_bits_15 : decode cX6_bits 15 = .ok (.iand, 1) := by decide +kernel
theorem dX6_bits_16 : decode cX6_bits 16 = .ok (.iadd, 1) := by decide +kernel
theorem dX6_bits_17 : decode cX6_bits 17 = .ok (.istore_n 1, 1) := by decide +kernel
theorem dX6_bits_18 : decode cX6_bits 18 = .ok (.iinc 2 1, 3) := by decide +kernel
theorem dX6_bits_21 : decode cX6_bits 21 = .ok (.goto (-17), 3) := by decide +kernel
theorem dX6_bits_24 : decode cX6_bits 24 = .ok (.iload_n 1, 1) := by decide +kernel
theorem dX6_bits_25 : decode cX6_bits 25 = .ok (.ireturn, 1) := by decide +kernel
theorem dX6_act_0 : decode cX6_act 0 = .ok (.iload_n 1, 1) := by decide +kernel
theorem dX6_act_1 : decode cX6_act 1 = .ok (.iconst 1, 1) := by decide +kernel
theorem dX6_act_2 : decode cX6_act 2 = .ok (.sipush 255, 3) := by decide +kernel
theorem dX6_act_5 : decode cX6_act 5 = .ok (.invokestatic 111, 3) := by decide +kernel
theorem dX6_act_8 : decode cX6_act 8 = .ok (.ifCond .eq 41, 3) := by decide +kernel
theorem dX6_act_11 : decode cX6_act 11 = .ok (.iload_n 2, 1) := by decide +kernel
theorem dX6_act_12 : decode cX6_act 12 = .ok (.iconst 0, 1) := by decide +kernel
theorem dX6_act_13 : decode cX6_act 13 = .ok (.sipush 255, 3) := by decide +kernel
theorem dX6_act_16 : decode cX6_act 16 = .ok (.invokestatic 111, 3) := by decide +kernel
theorem dX6_act_19 : decode cX6_act 19 = .ok (.ifCond .eq 30, 3) := by decide +kernel
theorem dX6_act_22 : decode cX6_act 22 = .ok (.iload_n 3, 1) := by decide +kernel
theorem dX6_act_23 : decode cX6_act 23 = .ok (.iconst 1, 1) := by decide +kernel
theorem dX6_act_24 : decode cX6_act 24 = .ok (.sipush 255, 3) := by decide +kernel
theorem dX6_act_27 : decode cX6_act 27 = .ok (.invokestatic 111, 3) := by decide +kernel
theorem dX6_act_30 : decode cX6_act 30 = .ok (.ifCond .eq 19, 3) := by decide +kernel
theorem dX6_act_33 : decode cX6_act 33 = .ok (.iload 4, 2) := by decide +kernel
theorem dX6_act_35 : decode cX6_act 35 = .ok (.iconst 0, 1) := by decide +kernel
theorem dX6_act_36 : decode cX6_act 36 = .ok (.sipush 5000, 3) := by decide +kernel
theorem dX6_act_39 : decode cX6_act 39 = .ok (.invokestatic 111, 3) := by decide +kernel
theorem dX6_act_42 : decode cX6_act 42 = .ok (.ifCond .eq 7, 3) := by decide +kernel
theorem dX6_act_45 : decode cX6_act 45 = .ok (.iconst 1, 1) := by decide +kernel
theorem dX6_act_46 : decode cX6_act 46 = .ok (.goto 4, 3) := by decide +kernel
theorem dX6_act_49 : decode cX6_act 49 = .ok (.iconst 0, 1) := by decide +kernel
theorem dX6_act_50 : decode cX6_act 50 = .ok (.istore 5, 2) := by decide +kernel
theorem dX6_act_52 : decode cX6_act 52 = .ok (.aload_n 0, 1) := by decide +kernel
theorem dX6_act_53 : decode cX6_act 53 = .ok (.iload 5, 2) := by decide +kernel
theorem dX6_act_55 : decode cX6_act 55 = .ok (.ifCond .ne 7, 3) := by decide +kernel
theorem dX6_act_58 : decode cX6_act 58 = .ok (.iconst 1, 1) := by decide +kernel
theorem dX6_act_59 : decode cX6_act 59 = .ok (.goto 17, 3) := by decide +kernel
theorem dX6_act_62 : decode cX6_act 62 = .ok (.aload_n 0, 1) := by decide +kernel
theorem dX6_act_63 : decode cX6_act 63 = .ok (.getfield 108, 3) := by decide +kernel
theorem dX6_act_66 : decode cX6_act 66 = .ok (.bipush 6, 2) := by decide +kernel
theorem dX6_act_68 : decode cX6_act 68 = .ok (.if_icmp .ne 7, 3) := by decide +kernel
theorem dX6_act_71 : decode cX6_act 71 = .ok (.iconst 2, 1) := by decide +kernel
theorem dX6_act_72 : decode cX6_act 72 = .ok (.goto 4, 3) := by decide +kernel
theorem dX6_act_75 : decode cX6_act 75 = .ok (.iconst 0, 1) := by decide +kernel
theorem dX6_act_76 : decode cX6_act 76 = .ok (.invokevirtual 127, 3) := by decide +kernel
theorem dX6_act_79 : decode cX6_act 79 = .ok (.ifCond .eq 5, 3) := by decide +kernel
theorem dX6_act_82 : decode cX6_act 82 = .ok (.iconst 0, 1) := by decide +kernel
theorem dX6_act_83 : decode cX6_act 83 = .ok (.ireturn, 1) := by decide +kernel
theorem dX6_act_84 : decode cX6_act 84 = .ok (.aload_n 0, 1) := by decide +kernel
theorem dX6_act_85 : decode cX6_act 85 = .ok (.getfield 7, 3) := by decide +kernel
theorem dX6_act_88 : decode cX6_act 88 = .ok (.aload_n 0, 1) := by decide +kernel
theorem dX6_act_89 : decode cX6_act 89 = .ok (.getfield 108, 3) := by decide +kernel
theorem dX6_act_92 : decode cX6_act 92 = .ok (.iload_n 1, 1) := by decide +kernel
theorem dX6_act_93 : decode cX6_act 93 = .ok (.iastore, 1) := by decide +kernel
theorem dX6_act_94 : decode cX6_act 94 = .ok (.aload_n 0, 1) := by decide +kernel
theorem dX6_act_95 : decode cX6_act 95 = .ok (.getfield 13, 3) := by decide +kernel
theorem dX6_act_98 : decode cX6_act 98 = .ok (.aload_n 0, 1) := by decide +kernel
theorem dX6_act_99 : decode cX6_act 99 = .ok (.getfield 108, 3) := by decide +kernel
theorem dX6_act_102 : decode cX6_act 102 = .ok (.iload_n 2, 1) := by decide +kernel
theorem dX6_act_103 : decode cX6_act 103 = .ok (.iastore, 1) := by decide +kernel
theorem dX6_act_104 : decode cX6_act 104 = .ok (.aload_n 0, 1) := by decide +kernel
theorem dX6_act_105 : decode cX6_act 105 = .ok (.getfield 16, 3) := by decide +kernel
theorem dX6_act_108 : decode cX6_act 108 = .ok (.aload_n 0, 1) := by decide +kernel
theorem dX6_act_109 : decode cX6_act 109 = .ok (.getfield 108, 3) := by decide +kernel
theorem dX6_act_112 : decode cX6_act 112 = .ok (.iload_n 3, 1) := by decide +kernel
theorem dX6_act_113 : decode cX6_act 113 = .ok (.iastore, 1) := by decide +kernel
theorem dX6_act_114 : decode cX6_act 114 = .ok (.aload_n 0, 1) := by decide +kernel
theorem dX6_act_115 : decode cX6_act 115 = .ok (.getfield 19, 3) := by decide +kernel
theorem dX6_act_118 : decode cX6_act 118 = .ok (.aload_n 0, 1) := by decide +kernel
theorem dX6_act_119 : decode cX6_act 119 = .ok (.getfield 108, 3) := by decide +kernel
theorem dX6_act_122 : decode cX6_act 122 = .ok (.iload 4, 2) := by decide +kernel
theorem dX6_act_124 : decode cX6_act 124 = .ok (.iastore, 1) := by decide +kernel
theorem dX6_act_125 : decode cX6_act 125 = .ok (.aload_n 0, 1) := by decide +kernel
theorem dX6_act_126 : decode cX6_act 126 = .ok (.dup, 1) := by decide +kernel
theorem dX6_act_127 : decode cX6_act 127 = .ok (.getfield 108, 3) := by decide +kernel
theorem dX6_act_130 : decode cX6_act 130 = .ok (.iconst 1, 1) := by decide +kernel
theorem dX6_act_131 : decode cX6_act 131 = .ok (.iadd, 1) := by decide +kernel
theorem dX6_act_132 : decode cX6_act 132 = .ok (.putfield 108, 3) := by decide +kernel
theorem dX6_act_135 : decode cX6_act 135 = .ok (.aload_n 0, 1) := by decide +kernel
theorem dX6_act_136 : decode cX6_act 136 = .ok (.getfield 108, 3) := by decide +kernel
theorem dX6_act_139 : decode cX6_act 139 = .ok (.iconst 1, 1) := by decide +kernel
theorem dX6_act_140 : decode cX6_act 140 = .ok (.isub, 1) := by decide +kernel
theorem dX6_act_141 : decode cX6_act 141 = .ok (.ireturn, 1) := by decide +kernel
theorem dX6_isAbove_0 : decode cX6_isAbove 0 = .ok (.iconst 0, 1) := by decide +kernel
theorem dX6_isAbove_1 : decode cX6_isAbove 1 = .ok (.istore_n 3, 1) := by decide +kernel
theorem dX6_isAbove_2 : decode cX6_isAbove 2 = .ok (.iload_n 3, 1) := by decide +kernel
theorem dX6_isAbove_3 : decode cX6_isAbove 3 = .ok (.bipush 6, 2) := by decide +kernel
theorem dX6_isAbove_5 : decode cX6_isAbove 5 = .ok (.if_icmp .ge 26, 3) := by decide +kernel
theorem dX6_isAbove_8 : decode cX6_isAbove 8 = .ok (.aload_n 0, 1) := by decide +kernel
theorem dX6_isAbove_9 : decode cX6_isAbove 9 = .ok (.getfield 26, 3) := by decide +kernel
theorem dX6_isAbove_12 : decode cX6_isAbove 12 = .ok (.iload_n 3, 1) := by decide +kernel
theorem dX6_isAbove_13 : decode cX6_isAbove 13 = .ok (.aload_n 0, 1) := by decide +kernel
theorem dX6_isAbove_14 : decode cX6_isAbove 14 = .ok (.getfield 22, 3) := by decide +kernel
theorem dX6_isAbove_17 : decode cX6_isAbove 17 = .ok (.bipush 6, 2) := by decide +kernel
theorem dX6_isAbove_19 : decode cX6_isAbove 19 = .ok (.iload_n 1, 1) := by decide +kernel
theorem dX6_isAbove_20 : decode cX6_isAbove 20 = .ok (.imul, 1) := by decide +kernel
theorem dX6_isAbove_21 : decode cX6_isAbove 21 = .ok (.iload_n 3, 1) := by decide +kernel
theorem dX6_isAbove_22 : decode cX6_isAbove 22 = .ok (.iadd, 1) := by decide +kernel
theorem dX6_isAbove_23 : decode cX6_isAbove 23 = .ok (.baload, 1) := by decide +kernel
theorem dX6_isAbove_24 : decode cX6_isAbove 24 = .ok (.bastore, 1) := by decide +kernel
theorem dX6_isAbove_25 : decode cX6_isAbove 25 = .ok (.iinc 3 1, 3) := by decide +kernel
theorem dX6_isAbove_28 : decode cX6_isAbove 28 = .ok (.goto (-26), 3) := by decide +kernel
theorem dX6_isAbove_31 : decode cX6_isAbove 31 = .ok (.iconst 0, 1) := by decide +kernel
theorem dX6_isAbove_32 : decode cX6_isAbove 32 = .ok (.istore_n 3, 1) := by decide +kernel
theorem dX6_isAbove_33 : decode cX6_isAbove 33 = .ok (.iload_n 3, 1) := by decide +kernel
theorem dX6_isAbove_34 : decode cX6_isAbove 34 = .ok (.bipush 6, 2) := by decide +kernel
theorem dX6_isAbove_36 : decode cX6_isAbove 36 = .ok (.if_icmp .ge 89, 3) := by decide +kernel
theorem dX6_isAbove_39 : decode cX6_isAbove 39 = .ok (.iconst 0, 1) := by decide +kernel
theorem dX6_isAbove_40 : decode cX6_isAbove 40 = .ok (.istore 4, 2) := by decide +kernel
theorem dX6_isAbove_42 : decode cX6_isAbove 42 = .ok (.iload 4, 2) := by decide +kernel
theorem dX6_isAbove_44 : decode cX6_isAbove 44 = .ok (.bipush 6, 2) := by decide +kernel
theorem dX6_isAbove_46 : decode cX6_isAbove 46 = .ok (.if_icmp .ge 73, 3) := by decide +kernel
theorem dX6_isAbove_49 : decode cX6_isAbove 49 = .ok (.iconst 0, 1) := by decide +kernel
theorem dX6_isAbove_50 : decode cX6_isAbove 50 = .ok (.istore 5, 2) := by decide +kernel
theorem dX6_isAbove_52 : decode cX6_isAbove 52 = .ok (.iload 5, 2) := by decide +kernel
theorem dX6_isAbove_54 : decode cX6_isAbove 54 = .ok (.bipush 6, 2) := by decide +kernel
theorem dX6_isAbove_56 : decode cX6_isAbove 56 = .ok (.if_icmp .ge 57, 3) := by decide +kernel
theorem dX6_isAbove_59 : decode cX6_isAbove 59 = .ok (.aload_n 0, 1) := by decide +kernel
theorem dX6_isAbove_60 : decode cX6_isAbove 60 = .ok (.getfield 26, 3) := by decide +kernel
theorem dX6_isAbove_63 : decode cX6_isAbove 63 = .ok (.iload 5, 2) := by decide +kernel
theorem dX6_isAbove_65 : decode cX6_isAbove 65 = .ok (.aload_n 0, 1) := by decide +kernel
theorem dX6_isAbove_66 : decode cX6_isAbove 66 = .ok (.getfield 26, 3) := by decide +kernel
theorem dX6_isAbove_69 : decode cX6_isAbove 69 = .ok (.iload 5, 2) := by decide +kernel
theorem dX6_isAbove_71 : decode cX6_isAbove 71 = .ok (.baload, 1) := by decide +kernel
theorem dX6_isAbove_72 : decode cX6_isAbove 72 = .ok (.ifCond .ne 29, 3) := by decide +kernel
theorem dX6_isAbove_75 : decode cX6_isAbove 75 = .ok (.aload_n 0, 1) := by decide +kernel
theorem dX6_isAbove_76 : decode cX6_isAbove 76 = .ok (.getfield 26, 3) := by decide +kernel
theorem dX6_isAbove_79 : decode cX6_isAbove 79 = .ok (.iload 4, 2) := by decide +kernel
theorem dX6_isAbove_81 : decode cX6_isAbove 81 = .ok (.baload, 1) := by decide +kernel
theorem dX6_isAbove_82 : decode cX6_isAbove 82 = .ok (.ifCond .eq 23, 3) := by decide +kernel
theorem dX6_isAbove_85 : decode cX6_isAbove 85 = .ok (.aload_n 0, 1) := by decide +kernel
theorem dX6_isAbove_86 : decode cX6_isAbove 86 = .ok (.getfield 22, 3) := by decide +kernel
theorem dX6_isAbove_89 : decode cX6_isAbove 89 = .ok (.bipush 6, 2) := by decide +kernel
theorem dX6_isAbove_91 : decode cX6_isAbove 91 = .ok (.iload 4, 2) := by decide +kernel
theorem dX6_isAbove_93 : decode cX6_isAbove 93 = .ok (.imul, 1) := by decide +kernel
theorem dX6_isAbove_94 : decode cX6_isAbove 94 = .ok (.iload 5, 2) := by decide +kernel
theorem dX6_isAbove_96 : decode cX6_isAbove 96 = .ok (.iadd, 1) := by decide +kernel
theorem dX6_isAbove_97 : decode cX6_isAbove 97 = .ok (.baload, 1) := by decide +kernel
theorem dX6_isAbove_98 : decode cX6_isAbove 98 = .ok (.ifCond .eq 7, 3) := by decide +kernel
theorem dX6_isAbove_101 : decode cX6_isAbove 101 = .ok (.iconst 1, 1) := by decide +kernel
theorem dX6_isAbove_102 : decode cX6_isAbove 102 = .ok (.goto 4, 3) := by decide +kernel
theorem dX6_isAbove_105 : decode cX6_isAbove 105 = .ok (.iconst 0, 1) := by decide +kernel
theorem dX6_isAbove_106 : decode cX6_isAbove 106 = .ok (.bastore, 1) := by decide +kernel
theorem dX6_isAbove_107 : decode cX6_isAbove 107 = .ok (.iinc 5 1, 3) := by decide +kernel
theorem dX6_isAbove_110 : decode cX6_isAbove 110 = .ok (.goto (-58), 3) := by decide +kernel
theorem dX6_isAbove_113 : decode cX6_isAbove 113 = .ok (.iinc 4 1, 3) := by decide +kernel
theorem dX6_isAbove_116 : decode cX6_isAbove 116 = .ok (.goto (-74), 3) := by decide +kernel
theorem dX6_isAbove_119 : decode cX6_isAbove 119 = .ok (.iinc 3 1, 3) := by decide +kernel
theorem dX6_isAbove_122 : decode cX6_isAbove 122 = .ok (.goto (-89), 3) := by decide +kernel
theorem dX6_isAbove_125 : decode cX6_isAbove 125 = .ok (.aload_n 0, 1) := by decide +kernel
theorem dX6_isAbove_126 : decode cX6_isAbove 126 = .ok (.getfield 26, 3) := by decide +kernel
theorem dX6_isAbove_129 : decode cX6_isAbove 129 = .ok (.iload_n 2, 1) := by decide +kernel
theorem dX6_isAbove_130 : decode cX6_isAbove 130 = .ok (.baload, 1) := by decide +kernel
theorem dX6_isAbove_131 : decode cX6_isAbove 131 = .ok (.ireturn, 1) := by decide +kernel
theorem dX6_special_0 : decode cX6_special 0 = .ok (.aload_n 0, 1) := by decide +kernel
theorem dX6_special_1 : decode cX6_special 1 = .ok (.iload_n 1, 1) := by decide +kernel
theorem dX6_special_2 : decode cX6_special 2 = .ok (.invokevirtual 131, 3) := by decide +kernel
theorem dX6_special_5 : decode cX6_special 5 = .ok (.ifCond .eq 15, 3) := by decide +kernel
theorem dX6_special_8 : decode cX6_special 8 = .ok (.aload_n 0, 1) := by decide +kernel
theorem dX6_special_9 : decode cX6_special 9 = .ok (.iload_n 2, 1) := by decide +kernel
theorem dX6_special_10 : decode cX6_special 10 = .ok (.invokevirtual 131, 3) := by decide +kernel
theorem dX6_special_13 : decode cX6_special 13 = .ok (.ifCond .eq 7, 3) := by decide +kernel
theorem dX6_special_16 : decode cX6_special 16 = .ok (.iconst 1, 1) := by decide +kernel
theorem dX6_special_17 : decode cX6_special 17 = .ok (.goto 4, 3) := by decide +kernel
theorem dX6_special_20 : decode cX6_special 20 = .ok (.iconst 0, 1) := by decide +kernel
theorem dX6_special_21 : decode cX6_special 21 = .ok (.istore_n 3, 1) := by decide +kernel
theorem dX6_special_22 : decode cX6_special 22 = .ok (.aload_n 0, 1) := by decide +kernel
theorem dX6_special_23 : decode cX6_special 23 = .ok (.iload_n 3, 1) := by decide +kernel
theorem dX6_special_24 : decode cX6_special 24 = .ok (.ifCond .ne 7, 3) := by decide +kernel
theorem dX6_special_27 : decode cX6_special 27 = .ok (.iconst 1, 1) := by decide +kernel
theorem dX6_special_28 : decode cX6_special 28 = .ok (.goto 26, 3) := by decide +kernel
theorem dX6_special_31 : decode cX6_special 31 = .ok (.iload_n 1, 1) := by decide +kernel
theorem dX6_special_32 : decode cX6_special 32 = .ok (.iload_n 2, 1) := by decide +kernel
theorem dX6_special_33 : decode cX6_special 33 = .ok (.if_icmp .ne 7, 3) := by decide +kernel
theorem dX6_special_36 : decode cX6_special 36 = .ok (.iconst 2, 1) := by decide +kernel
theorem dX6_special_37 : decode cX6_special 37 = .ok (.goto 17, 3) := by decide +kernel
theorem dX6_special_40 : decode cX6_special 40 = .ok (.aload_n 0, 1) := by decide +kernel
theorem dX6_special_41 : decode cX6_special 41 = .ok (.iload_n 2, 1) := by decide +kernel
theorem dX6_special_42 : decode cX6_special 42 = .ok (.iload_n 1, 1) := by decide +kernel
theorem dX6_special_43 : decode cX6_special 43 = .ok (.invokevirtual 134, 3) := by decide +kernel
theorem dX6_special_46 : decode cX6_special 46 = .ok (.ifCond .eq 7, 3) := by decide +kernel
theorem dX6_special_49 : decode cX6_special 49 = .ok (.iconst 3, 1) := by decide +kernel
theorem dX6_special_50 : decode cX6_special 50 = .ok (.goto 4, 3) := by decide +kernel
theorem dX6_special_53 : decode cX6_special 53 = .ok (.iconst 0, 1) := by decide +kernel
theorem dX6_special_54 : decode cX6_special 54 = .ok (.invokevirtual 127, 3) := by decide +kernel
theorem dX6_special_57 : decode cX6_special 57 = .ok (.ifCond .eq 5, 3) := by decide +kernel
theorem dX6_special_60 : decode cX6_special 60 = .ok (.iconst 0, 1) := by decide +kernel
theorem dX6_special_61 : decode cX6_special 61 = .ok (.ireturn, 1) := by decide +kernel
theorem dX6_special_62 : decode cX6_special 62 = .ok (.aload_n 0, 1) := by decide +kernel
theorem dX6_special_63 : decode cX6_special 63 = .ok (.getfield 22, 3) := by decide +kernel
theorem dX6_special_66 : decode cX6_special 66 = .ok (.bipush 6, 2) := by decide +kernel
theorem dX6_special_68 : decode cX6_special 68 = .ok (.iload_n 1, 1) := by decide +kernel
theorem dX6_special_69 : decode cX6_special 69 = .ok (.imul, 1) := by decide +kernel
theorem dX6_special_70 : decode cX6_special 70 = .ok (.iload_n 2, 1) := by decide +kernel
theorem dX6_special_71 : decode cX6_special 71 = .ok (.iadd, 1) := by decide +kernel
theorem dX6_special_72 : decode cX6_special 72 = .ok (.baload, 1) := by decide +kernel
theorem dX6_special_73 : decode cX6_special 73 = .ok (.istore 4, 2) := by decide +kernel
theorem dX6_special_75 : decode cX6_special 75 = .ok (.aload_n 0, 1) := by decide +kernel
theorem dX6_special_76 : decode cX6_special 76 = .ok (.getfield 22, 3) := by decide +kernel
theorem dX6_special_79 : decode cX6_special 79 = .ok (.bipush 6, 2) := by decide +kernel
theorem dX6_special_81 : decode cX6_special 81 = .ok (.iload_n 1, 1) := by decide +kernel
theorem dX6_special_82 : decode cX6_special 82 = .ok (.imul, 1) := by decide +kernel
theorem dX6_special_83 : decode cX6_special 83 = .ok (.iload_n 2, 1) := by decide +kernel
theorem dX6_special_84 : decode cX6_special 84 = .ok (.iadd, 1) := by decide +kernel
theorem dX6_special_85 : decode cX6_special 85 = .ok (.iconst 1, 1) := by decide +kernel
theorem dX6_special_86 : decode cX6_special 86 = .ok (.bastore, 1) := by decide +kernel
theorem dX6_special_87 : decode cX6_special 87 = .ok (.iload 4, 2) := by decide +kernel
theorem dX6_special_89 : decode cX6_special 89 = .ok (.ifCond .ne 7, 3) := by decide +kernel
theorem dX6_special_92 : decode cX6_special 92 = .ok (.iconst 1, 1) := by decide +kernel
theorem dX6_special_93 : decode cX6_special 93 = .ok (.goto 4, 3) := by decide +kernel
theorem dX6_special_96 : decode cX6_special 96 = .ok (.iconst 0, 1) := by decide +kernel
theorem dX6_special_97 : decode cX6_special 97 = .ok (.ireturn, 1) := by decide +kernel
theorem dX6_standard_0 : decode cX6_standard 0 = .ok (.aload_n 0, 1) := by decide +kernel
theorem dX6_standard_1 : decode cX6_standard 1 = .ok (.iload_n 1, 1) := by decide +kernel
theorem dX6_standard_2 : decode cX6_standard 2 = .ok (.iconst 1, 1) := by decide +kernel
theorem dX6_standard_3 : decode cX6_standard 3 = .ok (.sipush 255, 3) := by decide +kernel
theorem dX6_standard_6 : decode cX6_standard 6 = .ok (.invokestatic 111, 3) := by decide +kernel
theorem dX6_standard_9 : decode cX6_standard 9 = .ok (.ifCond .eq 14, 3) := by decide +kernel
theorem dX6_standard_12 : decode cX6_standard 12 = .ok (.iload_n 2, 1) := by decide +kernel
theorem dX6_standard_13 : decode cX6_standard 13 = .ok (.iconst 0, 1) := by decide +kernel
theorem dX6_standard_14 : decode cX6_standard 14 = .ok (.sipush 5000, 3) := by decide +kernel
theorem dX6_standard_17 : decode cX6_standard 17 = .ok (.invokestatic 111, 3) := by decide +kernel
theorem dX6_standard_20 : decode cX6_standard 20 = .ok (.ifCond .ne 7, 3) := by decide +kernel
theorem dX6_standard_23 : decode cX6_standard 23 = .ok (.iconst 1, 1) := by decide +kernel
theorem dX6_standard_24 : decode cX6_standard 24 = .ok (.goto 17, 3) := by decide +kernel
theorem dX6_standard_27 : decode cX6_standard 27 = .ok (.aload_n 0, 1) := by decide +kernel
theorem dX6_standard_28 : decode cX6_standard 28 = .ok (.getfield 115, 3) := by decide +kernel
theorem dX6_standard_31 : decode cX6_standard 31 = .ok (.bipush 12, 2) := by decide +kernel
theorem dX6_standard_33 : decode cX6_standard 33 = .ok (.if_icmp .ne 7, 3) := by decide +kernel
theorem dX6_standard_36 : decode cX6_standard 36 = .ok (.iconst 2, 1) := by decide +kernel
theorem dX6_standard_37 : decode cX6_standard 37 = .ok (.goto 4, 3) := by decide +kernel
theorem dX6_standard_40 : decode cX6_standard 40 = .ok (.iconst 0, 1) := by decide +kernel
theorem dX6_standard_41 : decode cX6_standard 41 = .ok (.invokevirtual 127, 3) := by decide +kernel
theorem dX6_standard_44 : decode cX6_standard 44 = .ok (.ifCond .eq 5, 3) := by decide +kernel
theorem dX6_standard_47 : decode cX6_standard 47 = .ok (.iconst 0, 1) := by decide +kernel
theorem dX6_standard_48 : decode cX6_standard 48 = .ok (.ireturn, 1) := by decide +kernel
theorem dX6_standard_49 : decode cX6_standard 49 = .ok (.aload_n 0, 1) := by decide +kernel
theorem dX6_standard_50 : decode cX6_standard 50 = .ok (.getfield 29, 3) := by decide +kernel
theorem dX6_standard_53 : decode cX6_standard 53 = .ok (.aload_n 0, 1) := by decide +kernel
theorem dX6_standard_54 : decode cX6_standard 54 = .ok (.getfield 115, 3) := by decide +kernel
theorem dX6_standard_57 : decode cX6_standard 57 = .ok (.iload_n 1, 1) := by decide +kernel
theorem dX6_standard_58 : decode cX6_standard 58 = .ok (.iastore, 1) := by decide +kernel
theorem dX6_standard_59 : decode cX6_standard 59 = .ok (.aload_n 0, 1) := by decide +kernel
theorem dX6_standard_60 : decode cX6_standard 60 = .ok (.getfield 32, 3) := by decide +kernel
theorem dX6_standard_63 : decode cX6_standard 63 = .ok (.aload_n 0, 1) := by decide +kernel
theorem dX6_standard_64 : decode cX6_standard 64 = .ok (.getfield 115, 3) := by decide +kernel
theorem dX6_standard_67 : decode cX6_standard 67 = .ok (.iload_n 2, 1) := by decide +kernel
theorem dX6_standard_68 : decode cX6_standard 68 = .ok (.iastore, 1) := by decide +kernel
theorem dX6_standard_69 : decode cX6_standard 69 = .ok (.aload_n 0, 1) := by decide +kernel
theorem dX6_standard_70 : decode cX6_standard 70 = .ok (.getfield 35, 3) := by decide +kernel
theorem dX6_standard_73 : decode cX6_standard 73 = .ok (.aload_n 0, 1) := by decide +kernel
theorem dX6_standard_74 : decode cX6_standard 74 = .ok (.getfield 115, 3) := by decide +kernel
theorem dX6_standard_77 : decode cX6_standard 77 = .ok (.ldc 138, 2) := by decide +kernel
theorem dX6_standard_79 : decode cX6_standard 79 = .ok (.iastore, 1) := by decide +kernel
theorem dX6_standard_80 : decode cX6_standard 80 = .ok (.aload_n 0, 1) := by decide +kernel
theorem dX6_standard_81 : decode cX6_standard 81 = .ok (.dup, 1) := by decide +kernel
theorem dX6_standard_82 : decode cX6_standard 82 = .ok (.getfield 115, 3) := by decide +kernel
theorem dX6_standard_85 : decode cX6_standard 85 = .ok (.iconst 1, 1) := by decide +kernel
theorem dX6_standard_86 : decode cX6_standard 86 = .ok (.iadd, 1) := by decide +kernel
theorem dX6_standard_87 : decode cX6_standard 87 = .ok (.putfield 115, 3) := by decide +kernel
theorem dX6_standard_90 : decode cX6_standard 90 = .ok (.aload_n 0, 1) := by decide +kernel
theorem dX6_standard_91 : decode cX6_standard 91 = .ok (.getfield 115, 3) := by decide +kernel
theorem dX6_standard_94 : decode cX6_standard 94 = .ok (.iconst 1, 1) := by decide +kernel
theorem dX6_standard_95 : decode cX6_standard 95 = .ok (.isub, 1) := by decide +kernel
theorem dX6_standard_96 : decode cX6_standard 96 = .ok (.ireturn, 1) := by decide +kernel
theorem dX6_withdraw_0 : decode cX6_withdraw 0 = .ok (.aload_n 0, 1) := by decide +kernel
theorem dX6_withdraw_1 : decode cX6_withdraw 1 = .ok (.aload_n 0, 1) := by decide +kernel
theorem dX6_withdraw_2 : decode cX6_withdraw 2 = .ok (.iload_n 1, 1) := by decide +kernel
theorem dX6_withdraw_3 : decode cX6_withdraw 3 = .ok (.invokevirtual 139, 3) := by decide +kernel
theorem dX6_withdraw_6 : decode cX6_withdraw 6 = .ok (.ifCond .ne 7, 3) := by decide +kernel
theorem dX6_withdraw_9 : decode cX6_withdraw 9 = .ok (.iconst 1, 1) := by decide +kernel
theorem dX6_withdraw_10 : decode cX6_withdraw 10 = .ok (.goto 22, 3) := by decide +kernel
theorem dX6_withdraw_13 : decode cX6_withdraw 13 = .ok (.iload_n 2, 1) := by decide +kernel
theorem dX6_withdraw_14 : decode cX6_withdraw 14 = .ok (.aload_n 0, 1) := by decide +kernel
theorem dX6_withdraw_15 : decode cX6_withdraw 15 = .ok (.getfield 142, 3) := by decide +kernel
theorem dX6_withdraw_18 : decode cX6_withdraw 18 = .ok (.sipush 5000, 3) := by decide +kernel
theorem dX6_withdraw_21 : decode cX6_withdraw 21 = .ok (.invokestatic 111, 3) := by decide +kernel
theorem dX6_withdraw_24 : decode cX6_withdraw 24 = .ok (.ifCond .ne 7, 3) := by decide +kernel
theorem dX6_withdraw_27 : decode cX6_withdraw 27 = .ok (.iconst 2, 1) := by decide +kernel
theorem dX6_withdraw_28 : decode cX6_withdraw 28 = .ok (.goto 4, 3) := by decide +kernel
theorem dX6_withdraw_31 : decode cX6_withdraw 31 = .ok (.iconst 0, 1) := by decide +kernel
theorem dX6_withdraw_32 : decode cX6_withdraw 32 = .ok (.invokevirtual 127, 3) := by decide +kernel
theorem dX6_withdraw_35 : decode cX6_withdraw 35 = .ok (.ifCond .eq 5, 3) := by decide +kernel
theorem dX6_withdraw_38 : decode cX6_withdraw 38 = .ok (.iconst 0, 1) := by decide +kernel
theorem dX6_withdraw_39 : decode cX6_withdraw 39 = .ok (.ireturn, 1) := by decide +kernel
theorem dX6_withdraw_40 : decode cX6_withdraw 40 = .ok (.aload_n 0, 1) := by decide +kernel
theorem dX6_withdraw_41 : decode cX6_withdraw 41 = .ok (.getfield 35, 3) := by decide +kernel
theorem dX6_withdraw_44 : decode cX6_withdraw 44 = .ok (.iload_n 1, 1) := by decide +kernel
theorem dX6_withdraw_45 : decode cX6_withdraw 45 = .ok (.iaload, 1) := by decide +kernel
theorem dX6_withdraw_46 : decode cX6_withdraw 46 = .ok (.istore_n 3, 1) := by decide +kernel
theorem dX6_withdraw_47 : decode cX6_withdraw 47 = .ok (.aload_n 0, 1) := by decide +kernel
theorem dX6_withdraw_48 : decode cX6_withdraw 48 = .ok (.getfield 35, 3) := by decide +kernel
theorem dX6_withdraw_51 : decode cX6_withdraw 51 = .ok (.iload_n 1, 1) := by decide +kernel
theorem dX6_withdraw_52 : decode cX6_withdraw 52 = .ok (.iload_n 2, 1) := by decide +kernel
theorem dX6_withdraw_53 : decode cX6_withdraw 53 = .ok (.iastore, 1) := by decide +kernel
theorem dX6_withdraw_54 : decode cX6_withdraw 54 = .ok (.iload_n 3, 1) := by decide +kernel
theorem dX6_withdraw_55 : decode cX6_withdraw 55 = .ok (.ldc 138, 2) := by decide +kernel
theorem dX6_withdraw_57 : decode cX6_withdraw 57 = .ok (.if_icmp .ne 7, 3) := by decide +kernel
theorem dX6_withdraw_60 : decode cX6_withdraw 60 = .ok (.iconst (-1), 1) := by decide +kernel
theorem dX6_withdraw_61 : decode cX6_withdraw 61 = .ok (.goto 4, 3) := by decide +kernel
theorem dX6_withdraw_64 : decode cX6_withdraw 64 = .ok (.iload_n 3, 1) := by decide +kernel
theorem dX6_withdraw_65 : decode cX6_withdraw 65 = .ok (.ireturn, 1) := by decide +kernel
theorem dX6_restrict_0 : decode cX6_restrict 0 = .ok (.aload_n 0, 1) := by decide +kernel
theorem dX6_restrict_1 : decode cX6_restrict 1 = .ok (.aload_n 0, 1) := by decide +kernel
theorem dX6_restrict_2 : decode cX6_restrict 2 = .ok (.iload_n 1, 1) := by decide +kernel
theorem dX6_restrict_3 : decode cX6_restrict 3 = .ok (.invokevirtual 139, 3) := by decide +kernel
theorem dX6_restrict_6 : decode cX6_restrict 6 = .ok (.ifCond .ne 7, 3) := by decide +kernel
theorem dX6_restrict_9 : decode cX6_restrict 9 = .ok (.iconst 1, 1) := by decide +kernel
theorem dX6_restrict_10 : decode cX6_restrict 10 = .ok (.goto 19, 3) := by decide +kernel
theorem dX6_restrict_13 : decode cX6_restrict 13 = .ok (.iload_n 2, 1) := by decide +kernel
theorem dX6_restrict_14 : decode cX6_restrict 14 = .ok (.iconst 1, 1) := by decide +kernel
theorem dX6_restrict_15 : decode cX6_restrict 15 = .ok (.sipush 255, 3) := by decide +kernel
theorem dX6_restrict_18 : decode cX6_restrict 18 = .ok (.invokestatic 111, 3) := by decide +kernel
theorem dX6_restrict_21 : decode cX6_restrict 21 = .ok (.ifCond .ne 7, 3) := by decide +kernel
theorem dX6_restrict_24 : decode cX6_restrict 24 = .ok (.iconst 2, 1) := by decide +kernel
theorem dX6_restrict_25 : decode cX6_restrict 25 = .ok (.goto 4, 3) := by decide +kernel
theorem dX6_restrict_28 : decode cX6_restrict 28 = .ok (.iconst 0, 1) := by decide +kernel
theorem dX6_restrict_29 : decode cX6_restrict 29 = .ok (.invokevirtual 127, 3) := by decide +kernel
theorem dX6_restrict_32 : decode cX6_restrict 32 = .ok (.ifCond .eq 5, 3) := by decide +kernel
theorem dX6_restrict_35 : decode cX6_restrict 35 = .ok (.iconst 0, 1) := by decide +kernel
theorem dX6_restrict_36 : decode cX6_restrict 36 = .ok (.ireturn, 1) := by decide +kernel
theorem dX6_restrict_37 : decode cX6_restrict 37 = .ok (.aload_n 0, 1) := by decide +kernel
theorem dX6_restrict_38 : decode cX6_restrict 38 = .ok (.getfield 29, 3) := by decide +kernel
theorem dX6_restrict_41 : decode cX6_restrict 41 = .ok (.iload_n 1, 1) := by decide +kernel
theorem dX6_restrict_42 : decode cX6_restrict 42 = .ok (.dup2, 1) := by decide +kernel
theorem dX6_restrict_43 : decode cX6_restrict 43 = .ok (.iaload, 1) := by decide +kernel
theorem dX6_restrict_44 : decode cX6_restrict 44 = .ok (.iload_n 2, 1) := by decide +kernel
theorem dX6_restrict_45 : decode cX6_restrict 45 = .ok (.iconst (-1), 1) := by decide +kernel
theorem dX6_restrict_46 : decode cX6_restrict 46 = .ok (.ixor, 1) := by decide +kernel
theorem dX6_restrict_47 : decode cX6_restrict 47 = .ok (.iand, 1) := by decide +kernel
theorem dX6_restrict_48 : decode cX6_restrict 48 = .ok (.iastore, 1) := by decide +kernel
theorem dX6_restrict_49 : decode cX6_restrict 49 = .ok (.aload_n 0, 1) := by decide +kernel
theorem dX6_restrict_50 : decode cX6_restrict 50 = .ok (.getfield 29, 3) := by decide +kernel
theorem dX6_restrict_53 : decode cX6_restrict 53 = .ok (.iload_n 1, 1) := by decide +kernel
theorem dX6_restrict_54 : decode cX6_restrict 54 = .ok (.iaload, 1) := by decide +kernel
theorem dX6_restrict_55 : decode cX6_restrict 55 = .ok (.ireturn, 1) := by decide +kernel
theorem dX6_product_0 : decode cX6_product 0 = .ok (.aload_n 0, 1) := by decide +kernel
theorem dX6_product_1 : decode cX6_product 1 = .ok (.iload_n 1, 1) := by decide +kernel
theorem dX6_product_2 : decode cX6_product 2 = .ok (.iconst 1, 1) := by decide +kernel
theorem dX6_product_3 : decode cX6_product 3 = .ok (.sipush 255, 3) := by decide +kernel
theorem dX6_product_6 : decode cX6_product 6 = .ok (.invokestatic 111, 3) := by decide +kernel
theorem dX6_product_9 : decode cX6_product 9 = .ok (.ifCond .ne 7, 3) := by decide +kernel
theorem dX6_product_12 : decode cX6_product 12 = .ok (.iconst 1, 1) := by decide +kernel
theorem dX6_product_13 : decode cX6_product 13 = .ok (.goto 17, 3) := by decide +kernel
theorem dX6_product_16 : decode cX6_product 16 = .ok (.aload_n 0, 1) := by decide +kernel
theorem dX6_product_17 : decode cX6_product 17 = .ok (.getfield 118, 3) := by decide +kernel
theorem dX6_product_20 : decode cX6_product 20 = .ok (.bipush 10, 2) := by decide +kernel
theorem dX6_product_22 : decode cX6_product 22 = .ok (.if_icmp .ne 7, 3) := by decide +kernel
theorem dX6_product_25 : decode cX6_product 25 = .ok (.iconst 2, 1) := by decide +kernel
theorem dX6_product_26 : decode cX6_product 26 = .ok (.goto 4, 3) := by decide +kernel
theorem dX6_product_29 : decode cX6_product 29 = .ok (.iconst 0, 1) := by decide +kernel
theorem dX6_product_30 : decode cX6_product 30 = .ok (.invokevirtual 127, 3) := by decide +kernel
theorem dX6_product_33 : decode cX6_product 33 = .ok (.ifCond .eq 5, 3) := by decide +kernel
theorem dX6_product_36 : decode cX6_product 36 = .ok (.iconst 0, 1) := by decide +kernel
theorem dX6_product_37 : decode cX6_product 37 = .ok (.ireturn, 1) := by decide +kernel
theorem dX6_product_38 : decode cX6_product 38 = .ok (.aload_n 0, 1) := by decide +kernel
theorem dX6_product_39 : decode cX6_product 39 = .ok (.getfield 38, 3) := by decide +kernel
theorem dX6_product_42 : decode cX6_product 42 = .ok (.aload_n 0, 1) := by decide +kernel
theorem dX6_product_43 : decode cX6_product 43 = .ok (.getfield 118, 3) := by decide +kernel
theorem dX6_product_46 : decode cX6_product 46 = .ok (.iload_n 1, 1) := by decide +kernel
theorem dX6_product_47 : decode cX6_product 47 = .ok (.iastore, 1) := by decide +kernel
theorem dX6_product_48 : decode cX6_product 48 = .ok (.aload_n 0, 1) := by decide +kernel
theorem dX6_product_49 : decode cX6_product 49 = .ok (.getfield 56, 3) := by decide +kernel
theorem dX6_product_52 : decode cX6_product 52 = .ok (.aload_n 0, 1) := by decide +kernel
theorem dX6_product_53 : decode cX6_product 53 = .ok (.getfield 118, 3) := by decide +kernel
theorem dX6_product_56 : decode cX6_product 56 = .ok (.iconst (-1), 1) := by decide +kernel
theorem dX6_product_57 : decode cX6_product 57 = .ok (.iastore, 1) := by decide +kernel
theorem dX6_product_58 : decode cX6_product 58 = .ok (.aload_n 0, 1) := by decide +kernel
theorem dX6_product_59 : decode cX6_product 59 = .ok (.getfield 59, 3) := by decide +kernel
theorem dX6_product_62 : decode cX6_product 62 = .ok (.aload_n 0, 1) := by decide +kernel
theorem dX6_product_63 : decode cX6_product 63 = .ok (.getfield 118, 3) := by decide +kernel
theorem dX6_product_66 : decode cX6_product 66 = .ok (.iconst (-1), 1) := by decide +kernel
theorem dX6_product_67 : decode cX6_product 67 = .ok (.iastore, 1) := by decide +kernel
theorem dX6_product_68 : decode cX6_product 68 = .ok (.aload_n 0, 1) := by decide +kernel
theorem dX6_product_69 : decode cX6_product 69 = .ok (.getfield 62, 3) := by decide +kernel
theorem dX6_product_72 : decode cX6_product 72 = .ok (.aload_n 0, 1) := by decide +kernel
theorem dX6_product_73 : decode cX6_product 73 = .ok (.getfield 118, 3) := by decide +kernel
theorem dX6_product_76 : decode cX6_product 76 = .ok (.iconst (-1), 1) := by decide +kernel
theorem dX6_product_77 : decode cX6_product 77 = .ok (.iastore, 1) := by decide +kernel
theorem dX6_product_78 : decode cX6_product 78 = .ok (.aload_n 0, 1) := by decide +kernel
theorem dX6_product_79 : decode cX6_product 79 = .ok (.getfield 65, 3) := by decide +kernel
theorem dX6_product_82 : decode cX6_product 82 = .ok (.aload_n 0, 1) := by decide +kernel
theorem dX6_product_83 : decode cX6_product 83 = .ok (.getfield 118, 3) := by decide +kernel
theorem dX6_product_86 : decode cX6_product 86 = .ok (.iconst (-1), 1) := by decide +kernel
theorem dX6_product_87 : decode cX6_product 87 = .ok (.iastore, 1) := by decide +kernel
theorem dX6_product_88 : decode cX6_product 88 = .ok (.aload_n 0, 1) := by decide +kernel
theorem dX6_product_89 : decode cX6_product 89 = .ok (.dup, 1) := by decide +kernel
theorem dX6_product_90 : decode cX6_product 90 = .ok (.getfield 118, 3) := by decide +kernel
theorem dX6_product_93 : decode cX6_product 93 = .ok (.iconst 1, 1) := by decide +kernel
theorem dX6_product_94 : decode cX6_product 94 = .ok (.iadd, 1) := by decide +kernel
theorem dX6_product_95 : decode cX6_product 95 = .ok (.putfield 118, 3) := by decide +kernel
theorem dX6_product_98 : decode cX6_product 98 = .ok (.aload_n 0, 1) := by decide +kernel
theorem dX6_product_99 : decode cX6_product 99 = .ok (.getfield 118, 3) := by decide +kernel
theorem dX6_product_102 : decode cX6_product 102 = .ok (.iconst 1, 1) := by decide +kernel
theorem dX6_product_103 : decode cX6_product 103 = .ok (.isub, 1) := by decide +kernel
theorem dX6_product_104 : decode cX6_product 104 = .ok (.ireturn, 1) := by decide +kernel
theorem dX6_nextVersion_0 : decode cX6_nextVersion 0 = .ok (.aload_n 0, 1) := by decide +kernel
theorem dX6_nextVersion_1 : decode cX6_nextVersion 1 = .ok (.getfield 41, 3) := by decide +kernel
theorem dX6_nextVersion_4 : decode cX6_nextVersion 4 = .ok (.iload_n 1, 1) := by decide +kernel
theorem dX6_nextVersion_5 : decode cX6_nextVersion 5 = .ok (.dup2, 1) := by decide +kernel
theorem dX6_nextVersion_6 : decode cX6_nextVersion 6 = .ok (.iaload, 1) := by decide +kernel
theorem dX6_nextVersion_7 : decode cX6_nextVersion 7 = .ok (.iconst 1, 1) := by decide +kernel
theorem dX6_nextVersion_8 : decode cX6_nextVersion 8 = .ok (.iadd, 1) := by decide +kernel
theorem dX6_nextVersion_9 : decode cX6_nextVersion 9 = .ok (.iastore, 1) := by decide +kernel
theorem dX6_nextVersion_10 : decode cX6_nextVersion 10 = .ok (.iconst 0, 1) := by decide +kernel
theorem dX6_nextVersion_11 : decode cX6_nextVersion 11 = .ok (.istore_n 2, 1) := by decide +kernel
theorem dX6_nextVersion_12 : decode cX6_nextVersion 12 = .ok (.iload_n 2, 1) := by decide +kernel
theorem dX6_nextVersion_13 : decode cX6_nextVersion 13 = .ok (.bipush 12, 2) := by decide +kernel
theorem dX6_nextVersion_15 : decode cX6_nextVersion 15 = .ok (.if_icmp .ge 21, 3) := by decide +kernel
theorem dX6_nextVersion_18 : decode cX6_nextVersion 18 = .ok (.aload_n 0, 1) := by decide +kernel
theorem dX6_nextVersion_19 : decode cX6_nextVersion 19 = .ok (.getfield 50, 3) := by decide +kernel
theorem dX6_nextVersion_22 : decode cX6_nextVersion 22 = .ok (.bipush 12, 2) := by decide +kernel
theorem dX6_nextVersion_24 : decode cX6_nextVersion 24 = .ok (.iload_n 1, 1) := by decide +kernel
theorem dX6_nextVersion_25 : decode cX6_nextVersion 25 = .ok (.imul, 1) := by decide +kernel
theorem dX6_nextVersion_26 : decode cX6_nextVersion 26 = .ok (.iload_n 2, 1) := by decide +kernel
theorem dX6_nextVersion_27 : decode cX6_nextVersion 27 = .ok (.iadd, 1) := by decide +kernel
theorem dX6_nextVersion_28 : decode cX6_nextVersion 28 = .ok (.iconst 0, 1) := by decide +kernel
theorem dX6_nextVersion_29 : decode cX6_nextVersion 29 = .ok (.iastore, 1) := by decide +kernel
theorem dX6_nextVersion_30 : decode cX6_nextVersion 30 = .ok (.iinc 2 1, 3) := by decide +kernel
theorem dX6_nextVersion_33 : decode cX6_nextVersion 33 = .ok (.goto (-21), 3) := by decide +kernel
theorem dX6_nextVersion_36 : decode cX6_nextVersion 36 = .ok (.aload_n 0, 1) := by decide +kernel
theorem dX6_nextVersion_37 : decode cX6_nextVersion 37 = .ok (.getfield 53, 3) := by decide +kernel
theorem dX6_nextVersion_40 : decode cX6_nextVersion 40 = .ok (.iload_n 1, 1) := by decide +kernel
theorem dX6_nextVersion_41 : decode cX6_nextVersion 41 = .ok (.iconst 0, 1) := by decide +kernel
theorem dX6_nextVersion_42 : decode cX6_nextVersion 42 = .ok (.iastore, 1) := by decide +kernel
theorem dX6_nextVersion_43 : decode cX6_nextVersion 43 = .ok (.aload_n 0, 1) := by decide +kernel
theorem dX6_nextVersion_44 : decode cX6_nextVersion 44 = .ok (.getfield 56, 3) := by decide +kernel
theorem dX6_nextVersion_47 : decode cX6_nextVersion 47 = .ok (.iload_n 1, 1) := by decide +kernel
theorem dX6_nextVersion_48 : decode cX6_nextVersion 48 = .ok (.iconst (-1), 1) := by decide +kernel
theorem dX6_nextVersion_49 : decode cX6_nextVersion 49 = .ok (.iastore, 1) := by decide +kernel
theorem dX6_nextVersion_50 : decode cX6_nextVersion 50 = .ok (.aload_n 0, 1) := by decide +kernel
theorem dX6_nextVersion_51 : decode cX6_nextVersion 51 = .ok (.getfield 59, 3) := by decide +kernel
theorem dX6_nextVersion_54 : decode cX6_nextVersion 54 = .ok (.iload_n 1, 1) := by decide +kernel
theorem dX6_nextVersion_55 : decode cX6_nextVersion 55 = .ok (.iconst (-1), 1) := by decide +kernel
theorem dX6_nextVersion_56 : decode cX6_nextVersion 56 = .ok (.iastore, 1) := by decide +kernel
theorem dX6_nextVersion_57 : decode cX6_nextVersion 57 = .ok (.aload_n 0, 1) := by decide +kernel
theorem dX6_nextVersion_58 : decode cX6_nextVersion 58 = .ok (.getfield 62, 3) := by decide +kernel
theorem dX6_nextVersion_61 : decode cX6_nextVersion 61 = .ok (.iload_n 1, 1) := by decide +kernel
theorem dX6_nextVersion_62 : decode cX6_nextVersion 62 = .ok (.iconst (-1), 1) := by decide +kernel
theorem dX6_nextVersion_63 : decode cX6_nextVersion 63 = .ok (.iastore, 1) := by decide +kernel
theorem dX6_nextVersion_64 : decode cX6_nextVersion 64 = .ok (.aload_n 0, 1) := by decide +kernel
theorem dX6_nextVersion_65 : decode cX6_nextVersion 65 = .ok (.getfield 65, 3) := by decide +kernel
theorem dX6_nextVersion_68 : decode cX6_nextVersion 68 = .ok (.iload_n 1, 1) := by decide +kernel
theorem dX6_nextVersion_69 : decode cX6_nextVersion 69 = .ok (.iconst (-1), 1) := by decide +kernel
theorem dX6_nextVersion_70 : decode cX6_nextVersion 70 = .ok (.iastore, 1) := by decide +kernel
theorem dX6_nextVersion_71 : decode cX6_nextVersion 71 = .ok (.return_, 1) := by decide +kernel
theorem dX6_change_0 : decode cX6_change 0 = .ok (.aload_n 0, 1) := by decide +kernel
theorem dX6_change_1 : decode cX6_change 1 = .ok (.aload_n 0, 1) := by decide +kernel
theorem dX6_change_2 : decode cX6_change 2 = .ok (.iload_n 1, 1) := by decide +kernel
theorem dX6_change_3 : decode cX6_change 3 = .ok (.invokevirtual 145, 3) := by decide +kernel
theorem dX6_change_6 : decode cX6_change 6 = .ok (.ifCond .ne 7, 3) := by decide +kernel
theorem dX6_change_9 : decode cX6_change 9 = .ok (.iconst 1, 1) := by decide +kernel
theorem dX6_change_10 : decode cX6_change 10 = .ok (.goto 19, 3) := by decide +kernel
theorem dX6_change_13 : decode cX6_change 13 = .ok (.iload_n 2, 1) := by decide +kernel
theorem dX6_change_14 : decode cX6_change 14 = .ok (.iconst 1, 1) := by decide +kernel
theorem dX6_change_15 : decode cX6_change 15 = .ok (.sipush 255, 3) := by decide +kernel
theorem dX6_change_18 : decode cX6_change 18 = .ok (.invokestatic 111, 3) := by decide +kernel
theorem dX6_change_21 : decode cX6_change 21 = .ok (.ifCond .ne 7, 3) := by decide +kernel
theorem dX6_change_24 : decode cX6_change 24 = .ok (.iconst 2, 1) := by decide +kernel
theorem dX6_change_25 : decode cX6_change 25 = .ok (.goto 4, 3) := by decide +kernel
theorem dX6_change_28 : decode cX6_change 28 = .ok (.iconst 0, 1) := by decide +kernel
theorem dX6_change_29 : decode cX6_change 29 = .ok (.invokevirtual 127, 3) := by decide +kernel
theorem dX6_change_32 : decode cX6_change 32 = .ok (.ifCond .eq 5, 3) := by decide +kernel
theorem dX6_change_35 : decode cX6_change 35 = .ok (.iconst 0, 1) := by decide +kernel
theorem dX6_change_36 : decode cX6_change 36 = .ok (.ireturn, 1) := by decide +kernel
theorem dX6_change_37 : decode cX6_change 37 = .ok (.aload_n 0, 1) := by decide +kernel
theorem dX6_change_38 : decode cX6_change 38 = .ok (.getfield 38, 3) := by decide +kernel
theorem dX6_change_41 : decode cX6_change 41 = .ok (.iload_n 1, 1) := by decide +kernel
theorem dX6_change_42 : decode cX6_change 42 = .ok (.iaload, 1) := by decide +kernel
theorem dX6_change_43 : decode cX6_change 43 = .ok (.iload_n 2, 1) := by decide +kernel
theorem dX6_change_44 : decode cX6_change 44 = .ok (.if_icmp .eq 15, 3) := by decide +kernel
theorem dX6_change_47 : decode cX6_change 47 = .ok (.aload_n 0, 1) := by decide +kernel
theorem dX6_change_48 : decode cX6_change 48 = .ok (.getfield 38, 3) := by decide +kernel
theorem dX6_change_51 : decode cX6_change 51 = .ok (.iload_n 1, 1) := by decide +kernel
theorem dX6_change_52 : decode cX6_change 52 = .ok (.iload_n 2, 1) := by decide +kernel
theorem dX6_change_53 : decode cX6_change 53 = .ok (.iastore, 1) := by decide +kernel
theorem dX6_change_54 : decode cX6_change 54 = .ok (.aload_n 0, 1) := by decide +kernel
theorem dX6_change_55 : decode cX6_change 55 = .ok (.iload_n 1, 1) := by decide +kernel
theorem dX6_change_56 : decode cX6_change 56 = .ok (.invokevirtual 148, 3) := by decide +kernel
theorem dX6_change_59 : decode cX6_change 59 = .ok (.aload_n 0, 1) := by decide +kernel
theorem dX6_change_60 : decode cX6_change 60 = .ok (.getfield 41, 3) := by decide +kernel
theorem dX6_change_63 : decode cX6_change 63 = .ok (.iload_n 1, 1) := by decide +kernel
theorem dX6_change_64 : decode cX6_change 64 = .ok (.iaload, 1) := by decide +kernel
theorem dX6_change_65 : decode cX6_change 65 = .ok (.ireturn, 1) := by decide +kernel
theorem dX6_risk_0 : decode cX6_risk 0 = .ok (.aload_n 0, 1) := by decide +kernel
theorem dX6_risk_1 : decode cX6_risk 1 = .ok (.iload_n 1, 1) := by decide +kernel
theorem dX6_risk_2 : decode cX6_risk 2 = .ok (.invokevirtual 145, 3) := by decide +kernel
theorem dX6_risk_5 : decode cX6_risk 5 = .ok (.ifCond .eq 17, 3) := by decide +kernel
theorem dX6_risk_8 : decode cX6_risk 8 = .ok (.iload_n 2, 1) := by decide +kernel
theorem dX6_risk_9 : decode cX6_risk 9 = .ok (.iconst 0, 1) := by decide +kernel
theorem dX6_risk_10 : decode cX6_risk 10 = .ok (.bipush 7, 2) := by decide +kernel
theorem dX6_risk_12 : decode cX6_risk 12 = .ok (.invokestatic 111, 3) := by decide +kernel
theorem dX6_risk_15 : decode cX6_risk 15 = .ok (.ifCond .eq 7, 3) := by decide +kernel
theorem dX6_risk_18 : decode cX6_risk 18 = .ok (.iconst 1, 1) := by decide +kernel
theorem dX6_risk_19 : decode cX6_risk 19 = .ok (.goto 4, 3) := by decide +kernel
theorem dX6_risk_22 : decode cX6_risk 22 = .ok (.iconst 0, 1) := by decide +kernel
theorem dX6_risk_23 : decode cX6_risk 23 = .ok (.istore 5, 2) := by decide +kernel
theorem dX6_risk_25 : decode cX6_risk 25 = .ok (.aload_n 0, 1) := by decide +kernel
theorem dX6_risk_26 : decode cX6_risk 26 = .ok (.iload 5, 2) := by decide +kernel
theorem dX6_risk_28 : decode cX6_risk 28 = .ok (.ifCond .ne 7, 3) := by decide +kernel
theorem dX6_risk_31 : decode cX6_risk 31 = .ok (.iconst 1, 1) := by decide +kernel
theorem dX6_risk_32 : decode cX6_risk 32 = .ok (.goto 28, 3) := by decide +kernel
theorem dX6_risk_35 : decode cX6_risk 35 = .ok (.iload_n 3, 1) := by decide +kernel
theorem dX6_risk_36 : decode cX6_risk 36 = .ok (.iconst 0, 1) := by decide +kernel
theorem dX6_risk_37 : decode cX6_risk 37 = .ok (.bipush 9, 2) := by decide +kernel
theorem dX6_risk_39 : decode cX6_risk 39 = .ok (.invokestatic 111, 3) := by decide +kernel
theorem dX6_risk_42 : decode cX6_risk 42 = .ok (.ifCond .eq 13, 3) := by decide +kernel
theorem dX6_risk_45 : decode cX6_risk 45 = .ok (.iload 4, 2) := by decide +kernel
theorem dX6_risk_47 : decode cX6_risk 47 = .ok (.iconst 0, 1) := by decide +kernel
theorem dX6_risk_48 : decode cX6_risk 48 = .ok (.iload_n 3, 1) := by decide +kernel
theorem dX6_risk_49 : decode cX6_risk 49 = .ok (.invokestatic 111, 3) := by decide +kernel
theorem dX6_risk_52 : decode cX6_risk 52 = .ok (.ifCond .ne 7, 3) := by decide +kernel
theorem dX6_risk_55 : decode cX6_risk 55 = .ok (.iconst 2, 1) := by decide +kernel
theorem dX6_risk_56 : decode cX6_risk 56 = .ok (.goto 4, 3) := by decide +kernel
theorem dX6_risk_59 : decode cX6_risk 59 = .ok (.iconst 0, 1) := by decide +kernel
theorem dX6_risk_60 : decode cX6_risk 60 = .ok (.invokevirtual 127, 3) := by decide +kernel
theorem dX6_risk_63 : decode cX6_risk 63 = .ok (.ifCond .eq 5, 3) := by decide +kernel
theorem dX6_risk_66 : decode cX6_risk 66 = .ok (.iconst 0, 1) := by decide +kernel
theorem dX6_risk_67 : decode cX6_risk 67 = .ok (.ireturn, 1) := by decide +kernel
theorem dX6_risk_68 : decode cX6_risk 68 = .ok (.bipush 8, 2) := by decide +kernel
theorem dX6_risk_70 : decode cX6_risk 70 = .ok (.iload_n 1, 1) := by decide +kernel
theorem dX6_risk_71 : decode cX6_risk 71 = .ok (.imul, 1) := by decide +kernel
theorem dX6_risk_72 : decode cX6_risk 72 = .ok (.iload_n 2, 1) := by decide +kernel
theorem dX6_risk_73 : decode cX6_risk 73 = .ok (.iadd, 1) := by decide +kernel
theorem dX6_risk_74 : decode cX6_risk 74 = .ok (.istore 6, 2) := by decide +kernel
theorem dX6_risk_76 : decode cX6_risk 76 = .ok (.iload_n 3, 1) := by decide +kernel
theorem dX6_risk_77 : decode cX6_risk 77 = .ok (.aload_n 0, 1) := by decide +kernel
theorem dX6_risk_78 : decode cX6_risk 78 = .ok (.getfield 44, 3) := by decide +kernel
theorem dX6_risk_81 : decode cX6_risk 81 = .ok (.iload 6, 2) := by decide +kernel
theorem dX6_risk_83 : decode cX6_risk 83 = .ok (.iaload, 1) := by decide +kernel
theorem dX6_risk_84 : decode cX6_risk 84 = .ok (.if_icmp .gt 15, 3) := by decide +kernel
theorem dX6_risk_87 : decode cX6_risk 87 = .ok (.iload 4, 2) := by decide +kernel
theorem dX6_risk_89 : decode cX6_risk 89 = .ok (.aload_n 0, 1) := by decide +kernel
theorem dX6_risk_90 : decode cX6_risk 90 = .ok (.getfield 47, 3) := by decide +kernel
theorem dX6_risk_93 : decode cX6_risk 93 = .ok (.iload 6, 2) := by decide +kernel
theorem dX6_risk_95 : decode cX6_risk 95 = .ok (.iaload, 1) := by decide +kernel
theorem dX6_risk_96 : decode cX6_risk 96 = .ok (.if_icmp .le 8, 3) := by decide +kernel
theorem dX6_risk_99 : decode cX6_risk 99 = .ok (.aload_n 0, 1) := by decide +kernel
theorem dX6_risk_100 : decode cX6_risk 100 = .ok (.iload_n 1, 1) := by decide +kernel
theorem dX6_risk_101 : decode cX6_risk 101 = .ok (.invokevirtual 148, 3) := by decide +kernel
theorem dX6_risk_104 : decode cX6_risk 104 = .ok (.aload_n 0, 1) := by decide +kernel
theorem dX6_risk_105 : decode cX6_risk 105 = .ok (.getfield 44, 3) := by decide +kernel
theorem dX6_risk_108 : decode cX6_risk 108 = .ok (.iload 6, 2) := by decide +kernel
theorem dX6_risk_110 : decode cX6_risk 110 = .ok (.iload_n 3, 1) := by decide +kernel
theorem dX6_risk_111 : decode cX6_risk 111 = .ok (.iastore, 1) := by decide +kernel
theorem dX6_risk_112 : decode cX6_risk 112 = .ok (.aload_n 0, 1) := by decide +kernel
theorem dX6_risk_113 : decode cX6_risk 113 = .ok (.getfield 47, 3) := by decide +kernel
theorem dX6_risk_116 : decode cX6_risk 116 = .ok (.iload 6, 2) := by decide +kernel
theorem dX6_risk_118 : decode cX6_risk 118 = .ok (.iload 4, 2) := by decide +kernel
theorem dX6_risk_120 : decode cX6_risk 120 = .ok (.iastore, 1) := by decide +kernel
theorem dX6_risk_121 : decode cX6_risk 121 = .ok (.aload_n 0, 1) := by decide +kernel
theorem dX6_risk_122 : decode cX6_risk 122 = .ok (.getfield 41, 3) := by decide +kernel
theorem dX6_risk_125 : decode cX6_risk 125 = .ok (.iload_n 1, 1) := by decide +kernel
theorem dX6_risk_126 : decode cX6_risk 126 = .ok (.iaload, 1) := by decide +kernel
theorem dX6_risk_127 : decode cX6_risk 127 = .ok (.ireturn, 1) := by decide +kernel
theorem dX6_follow_0 : decode cX6_follow 0 = .ok (.aload_n 0, 1) := by decide +kernel
theorem dX6_follow_1 : decode cX6_follow 1 = .ok (.iload_n 1, 1) := by decide +kernel
theorem dX6_follow_2 : decode cX6_follow 2 = .ok (.invokevirtual 145, 3) := by decide +kernel
theorem dX6_follow_5 : decode cX6_follow 5 = .ok (.ifCond .eq 15, 3) := by decide +kernel
theorem dX6_follow_8 : decode cX6_follow 8 = .ok (.aload_n 0, 1) := by decide +kernel
theorem dX6_follow_9 : decode cX6_follow 9 = .ok (.iload_n 2, 1) := by decide +kernel
theorem dX6_follow_10 : decode cX6_follow 10 = .ok (.invokevirtual 139, 3) := by decide +kernel
theorem dX6_follow_13 : decode cX6_follow 13 = .ok (.ifCond .eq 7, 3) := by decide +kernel
theorem dX6_follow_16 : decode cX6_follow 16 = .ok (.iconst 1, 1) := by decide +kernel
theorem dX6_follow_17 : decode cX6_follow 17 = .ok (.goto 4, 3) := by decide +kernel
theorem dX6_follow_20 : decode cX6_follow 20 = .ok (.iconst 0, 1) := by decide +kernel
theorem dX6_follow_21 : decode cX6_follow 21 = .ok (.istore 4, 2) := by decide +kernel
theorem dX6_follow_23 : decode cX6_follow 23 = .ok (.aload_n 0, 1) := by decide +kernel
theorem dX6_follow_24 : decode cX6_follow 24 = .ok (.iload 4, 2) := by decide +kernel
theorem dX6_follow_26 : decode cX6_follow 26 = .ok (.ifCond .ne 7, 3) := by decide +kernel
theorem dX6_follow_29 : decode cX6_follow 29 = .ok (.iconst 1, 1) := by decide +kernel
theorem dX6_follow_30 : decode cX6_follow 30 = .ok (.goto 19, 3) := by decide +kernel
theorem dX6_follow_33 : decode cX6_follow 33 = .ok (.iload_n 3, 1) := by decide +kernel
theorem dX6_follow_34 : decode cX6_follow 34 = .ok (.iconst 0, 1) := by decide +kernel
theorem dX6_follow_35 : decode cX6_follow 35 = .ok (.sipush 255, 3) := by decide +kernel
theorem dX6_follow_38 : decode cX6_follow 38 = .ok (.invokestatic 111, 3) := by decide +kernel
theorem dX6_follow_41 : decode cX6_follow 41 = .ok (.ifCond .ne 7, 3) := by decide +kernel
theorem dX6_follow_44 : decode cX6_follow 44 = .ok (.iconst 2, 1) := by decide +kernel
theorem dX6_follow_45 : decode cX6_follow 45 = .ok (.goto 4, 3) := by decide +kernel
theorem dX6_follow_48 : decode cX6_follow 48 = .ok (.iconst 0, 1) := by decide +kernel
theorem dX6_follow_49 : decode cX6_follow 49 = .ok (.invokevirtual 127, 3) := by decide +kernel
theorem dX6_follow_52 : decode cX6_follow 52 = .ok (.ifCond .eq 5, 3) := by decide +kernel
theorem dX6_follow_55 : decode cX6_follow 55 = .ok (.iconst 0, 1) := by decide +kernel
theorem dX6_follow_56 : decode cX6_follow 56 = .ok (.ireturn, 1) := by decide +kernel
theorem dX6_follow_57 : decode cX6_follow 57 = .ok (.aload_n 0, 1) := by decide +kernel
theorem dX6_follow_58 : decode cX6_follow 58 = .ok (.getfield 50, 3) := by decide +kernel
theorem dX6_follow_61 : decode cX6_follow 61 = .ok (.bipush 12, 2) := by decide +kernel
theorem dX6_follow_63 : decode cX6_follow 63 = .ok (.iload_n 1, 1) := by decide +kernel
theorem dX6_follow_64 : decode cX6_follow 64 = .ok (.imul, 1) := by decide +kernel
theorem dX6_follow_65 : decode cX6_follow 65 = .ok (.iload_n 2, 1) := by decide +kernel
theorem dX6_follow_66 : decode cX6_follow 66 = .ok (.iadd, 1) := by decide +kernel
theorem dX6_follow_67 : decode cX6_follow 67 = .ok (.iaload, 1) := by decide +kernel
theorem dX6_follow_68 : decode cX6_follow 68 = .ok (.istore 5, 2) := by decide +kernel
theorem dX6_follow_70 : decode cX6_follow 70 = .ok (.aload_n 0, 1) := by decide +kernel
theorem dX6_follow_71 : decode cX6_follow 71 = .ok (.getfield 50, 3) := by decide +kernel
theorem dX6_follow_74 : decode cX6_follow 74 = .ok (.bipush 12, 2) := by decide +kernel
theorem dX6_follow_76 : decode cX6_follow 76 = .ok (.iload_n 1, 1) := by decide +kernel
theorem dX6_follow_77 : decode cX6_follow 77 = .ok (.imul, 1) := by decide +kernel
theorem dX6_follow_78 : decode cX6_follow 78 = .ok (.iload_n 2, 1) := by decide +kernel
theorem dX6_follow_79 : decode cX6_follow 79 = .ok (.iadd, 1) := by decide +kernel
theorem dX6_follow_80 : decode cX6_follow 80 = .ok (.iload_n 3, 1) := by decide +kernel
theorem dX6_follow_81 : decode cX6_follow 81 = .ok (.iastore, 1) := by decide +kernel
theorem dX6_follow_82 : decode cX6_follow 82 = .ok (.iload 5, 2) := by decide +kernel
theorem dX6_follow_84 : decode cX6_follow 84 = .ok (.ireturn, 1) := by decide +kernel
theorem dX6_prove_0 : decode cX6_prove 0 = .ok (.aload_n 0, 1) := by decide +kernel
theorem dX6_prove_1 : decode cX6_prove 1 = .ok (.aload_n 0, 1) := by decide +kernel
theorem dX6_prove_2 : decode cX6_prove 2 = .ok (.iload_n 1, 1) := by decide +kernel
theorem dX6_prove_3 : decode cX6_prove 3 = .ok (.invokevirtual 145, 3) := by decide +kernel
theorem dX6_prove_6 : decode cX6_prove 6 = .ok (.ifCond .ne 7, 3) := by decide +kernel
theorem dX6_prove_9 : decode cX6_prove 9 = .ok (.iconst 1, 1) := by decide +kernel
theorem dX6_prove_10 : decode cX6_prove 10 = .ok (.goto 19, 3) := by decide +kernel
theorem dX6_prove_13 : decode cX6_prove 13 = .ok (.iload_n 2, 1) := by decide +kernel
theorem dX6_prove_14 : decode cX6_prove 14 = .ok (.iconst 1, 1) := by decide +kernel
theorem dX6_prove_15 : decode cX6_prove 15 = .ok (.sipush 255, 3) := by decide +kernel
theorem dX6_prove_18 : decode cX6_prove 18 = .ok (.invokestatic 111, 3) := by decide +kernel
theorem dX6_prove_21 : decode cX6_prove 21 = .ok (.ifCond .ne 7, 3) := by decide +kernel
theorem dX6_prove_24 : decode cX6_prove 24 = .ok (.iconst 2, 1) := by decide +kernel
theorem dX6_prove_25 : decode cX6_prove 25 = .ok (.goto 4, 3) := by decide +kernel
theorem dX6_prove_28 : decode cX6_prove 28 = .ok (.iconst 0, 1) := by decide +kernel
theorem dX6_prove_29 : decode cX6_prove 29 = .ok (.invokevirtual 127, 3) := by decide +kernel
theorem dX6_prove_32 : decode cX6_prove 32 = .ok (.ifCond .eq 5, 3) := by decide +kernel
theorem dX6_prove_35 : decode cX6_prove 35 = .ok (.iconst 0, 1) := by decide +kernel
theorem dX6_prove_36 : decode cX6_prove 36 = .ok (.ireturn, 1) := by decide +kernel
theorem dX6_prove_37 : decode cX6_prove 37 = .ok (.aload_n 0, 1) := by decide +kernel
theorem dX6_prove_38 : decode cX6_prove 38 = .ok (.getfield 53, 3) := by decide +kernel
theorem dX6_prove_41 : decode cX6_prove 41 = .ok (.iload_n 1, 1) := by decide +kernel
theorem dX6_prove_42 : decode cX6_prove 42 = .ok (.dup2, 1) := by decide +kernel
theorem dX6_prove_43 : decode cX6_prove 43 = .ok (.iaload, 1) := by decide +kernel
theorem dX6_prove_44 : decode cX6_prove 44 = .ok (.iload_n 2, 1) := by decide +kernel
theorem dX6_prove_45 : decode cX6_prove 45 = .ok (.ior, 1) := by decide +kernel
theorem dX6_prove_46 : decode cX6_prove 46 = .ok (.iastore, 1) := by decide +kernel
theorem dX6_prove_47 : decode cX6_prove 47 = .ok (.aload_n 0, 1) := by decide +kernel
theorem dX6_prove_48 : decode cX6_prove 48 = .ok (.getfield 53, 3) := by decide +kernel
theorem dX6_prove_51 : decode cX6_prove 51 = .ok (.iload_n 1, 1) := by decide +kernel
theorem dX6_prove_52 : decode cX6_prove 52 = .ok (.iaload, 1) := by decide +kernel
theorem dX6_prove_53 : decode cX6_prove 53 = .ok (.ireturn, 1) := by decide +kernel
theorem dX6_isFor_0 : decode cX6_isFor 0 = .ok (.aload_n 0, 1) := by decide +kernel
theorem dX6_isFor_1 : decode cX6_isFor 1 = .ok (.getfield 19, 3) := by decide +kernel
theorem dX6_isFor_4 : decode cX6_isFor 4 = .ok (.iload_n 1, 1) := by decide +kernel
theorem dX6_isFor_5 : decode cX6_isFor 5 = .ok (.iaload, 1) := by decide +kernel
theorem dX6_isFor_6 : decode cX6_isFor 6 = .ok (.aload_n 0, 1) := by decide +kernel
theorem dX6_isFor_7 : decode cX6_isFor 7 = .ok (.getfield 142, 3) := by decide +kernel
theorem dX6_isFor_10 : decode cX6_isFor 10 = .ok (.if_icmp .gt 39, 3) := by decide +kernel
theorem dX6_isFor_13 : decode cX6_isFor 13 = .ok (.aload_n 0, 1) := by decide +kernel
theorem dX6_isFor_14 : decode cX6_isFor 14 = .ok (.getfield 7, 3) := by decide +kernel
theorem dX6_isFor_17 : decode cX6_isFor 17 = .ok (.iload_n 1, 1) := by decide +kernel
theorem dX6_isFor_18 : decode cX6_isFor 18 = .ok (.iaload, 1) := by decide +kernel
theorem dX6_isFor_19 : decode cX6_isFor 19 = .ok (.aload_n 0, 1) := by decide +kernel
theorem dX6_isFor_20 : decode cX6_isFor 20 = .ok (.getfield 38, 3) := by decide +kernel
theorem dX6_isFor_23 : decode cX6_isFor 23 = .ok (.iload_n 2, 1) := by decide +kernel
theorem dX6_isFor_24 : decode cX6_isFor 24 = .ok (.iaload, 1) := by decide +kernel
theorem dX6_isFor_25 : decode cX6_isFor 25 = .ok (.iand, 1) := by decide +kernel
theorem dX6_isFor_26 : decode cX6_isFor 26 = .ok (.ifCond .eq 23, 3) := by decide +kernel
theorem dX6_isFor_29 : decode cX6_isFor 29 = .ok (.aload_n 0, 1) := by decide +kernel
theorem dX6_isFor_30 : decode cX6_isFor 30 = .ok (.getfield 13, 3) := by decide +kernel
theorem dX6_isFor_33 : decode cX6_isFor 33 = .ok (.iload_n 1, 1) := by decide +kernel
theorem dX6_isFor_34 : decode cX6_isFor 34 = .ok (.iaload, 1) := by decide +kernel
theorem dX6_isFor_35 : decode cX6_isFor 35 = .ok (.aload_n 0, 1) := by decide +kernel
theorem dX6_isFor_36 : decode cX6_isFor 36 = .ok (.getfield 38, 3) := by decide +kernel
theorem dX6_isFor_39 : decode cX6_isFor 39 = .ok (.iload_n 2, 1) := by decide +kernel
theorem dX6_isFor_40 : decode cX6_isFor 40 = .ok (.iaload, 1) := by decide +kernel
theorem dX6_isFor_41 : decode cX6_isFor 41 = .ok (.iand, 1) := by decide +kernel
theorem dX6_isFor_42 : decode cX6_isFor 42 = .ok (.ifCond .ne 7, 3) := by decide +kernel
theorem dX6_isFor_45 : decode cX6_isFor 45 = .ok (.iconst 1, 1) := by decide +kernel
theorem dX6_isFor_46 : decode cX6_isFor 46 = .ok (.goto 4, 3) := by decide +kernel
theorem dX6_isFor_49 : decode cX6_isFor 49 = .ok (.iconst 0, 1) := by decide +kernel
theorem dX6_isFor_50 : decode cX6_isFor 50 = .ok (.ireturn, 1) := by decide +kernel
theorem dX6_doesApply_0 : decode cX6_doesApply 0 = .ok (.aload_n 0, 1) := by decide +kernel
theorem dX6_doesApply_1 : decode cX6_doesApply 1 = .ok (.iload_n 1, 1) := by decide +kernel
theorem dX6_doesApply_2 : decode cX6_doesApply 2 = .ok (.iload_n 2, 1) := by decide +kernel
theorem dX6_doesApply_3 : decode cX6_doesApply 3 = .ok (.invokevirtual 152, 3) := by decide +kernel
theorem dX6_doesApply_6 : decode cX6_doesApply 6 = .ok (.istore_n 3, 1) := by decide +kernel
theorem dX6_doesApply_7 : decode cX6_doesApply 7 = .ok (.iconst 0, 1) := by decide +kernel
theorem dX6_doesApply_8 : decode cX6_doesApply 8 = .ok (.istore 4, 2) := by decide +kernel
theorem dX6_doesApply_10 : decode cX6_doesApply 10 = .ok (.iload 4, 2) := by decide +kernel
theorem dX6_doesApply_12 : decode cX6_doesApply 12 = .ok (.aload_n 0, 1) := by decide +kernel
theorem dX6_doesApply_13 : decode cX6_doesApply 13 = .ok (.getfield 108, 3) := by decide +kernel
theorem dX6_doesApply_16 : decode cX6_doesApply 16 = .ok (.if_icmp .ge 44, 3) := by decide +kernel
theorem dX6_doesApply_19 : decode cX6_doesApply 19 = .ok (.iload_n 3, 1) := by decide +kernel
theorem dX6_doesApply_20 : decode cX6_doesApply 20 = .ok (.ifCond .eq 32, 3) := by decide +kernel
theorem dX6_doesApply_23 : decode cX6_doesApply 23 = .ok (.aload_n 0, 1) := by decide +kernel
theorem dX6_doesApply_24 : decode cX6_doesApply 24 = .ok (.getfield 22, 3) := by decide +kernel
theorem dX6_doesApply_27 : decode cX6_doesApply 27 = .ok (.bipush 6, 2) := by decide +kernel
theorem dX6_doesApply_29 : decode cX6_doesApply 29 = .ok (.iload 4, 2) := by decide +kernel
theorem dX6_doesApply_31 : decode cX6_doesApply 31 = .ok (.imul, 1) := by decide +kernel
theorem dX6_doesApply_32 : decode cX6_doesApply 32 = .ok (.iload_n 1, 1) := by decide +kernel
theorem dX6_doesApply_33 : decode cX6_doesApply 33 = .ok (.iadd, 1) := by decide +kernel
theorem dX6_doesApply_34 : decode cX6_doesApply 34 = .ok (.baload, 1) := by decide +kernel
theorem dX6_doesApply_35 : decode cX6_doesApply 35 = .ok (.ifCond .eq 13, 3) := by decide +kernel
theorem dX6_doesApply_38 : decode cX6_doesApply 38 = .ok (.aload_n 0, 1) := by decide +kernel
theorem dX6_doesApply_39 : decode cX6_doesApply 39 = .ok (.iload 4, 2) := by decide +kernel
theorem dX6_doesApply_41 : decode cX6_doesApply 41 = .ok (.iload_n 2, 1) := by decide +kernel
theorem dX6_doesApply_42 : decode cX6_doesApply 42 = .ok (.invokevirtual 152, 3) := by decide +kernel
theorem dX6_doesApply_45 : decode cX6_doesApply 45 = .ok (.ifCond .ne 7, 3) := by decide +kernel
theorem dX6_doesApply_48 : decode cX6_doesApply 48 = .ok (.iconst 1, 1) := by decide +kernel
theorem dX6_doesApply_49 : decode cX6_doesApply 49 = .ok (.goto 4, 3) := by decide +kernel
theorem dX6_doesApply_52 : decode cX6_doesApply 52 = .ok (.iconst 0, 1) := by decide +kernel
theorem dX6_doesApply_53 : decode cX6_doesApply 53 = .ok (.istore_n 3, 1) := by decide +kernel
theorem dX6_doesApply_54 : decode cX6_doesApply 54 = .ok (.iinc 4 1, 3) := by decide +kernel
theorem dX6_doesApply_57 : decode cX6_doesApply 57 = .ok (.goto (-47), 3) := by decide +kernel
theorem dX6_doesApply_60 : decode cX6_doesApply 60 = .ok (.iload_n 3, 1) := by decide +kernel
theorem dX6_doesApply_61 : decode cX6_doesApply 61 = .ok (.ireturn, 1) := by decide +kernel
theorem dX6_applying_0 : decode cX6_applying 0 = .ok (.iconst 0, 1) := by decide +kernel
theorem dX6_applying_1 : decode cX6_applying 1 = .ok (.istore_n 2, 1) := by decide +kernel
theorem dX6_applying_2 : decode cX6_applying 2 = .ok (.iconst 0, 1) := by decide +kernel
theorem dX6_applying_3 : decode cX6_applying 3 = .ok (.istore_n 3, 1) := by decide +kernel
theorem dX6_applying_4 : decode cX6_applying 4 = .ok (.iload_n 3, 1) := by decide +kernel
theorem dX6_applying_5 : decode cX6_applying 5 = .ok (.aload_n 0, 1) := by decide +kernel
theorem dX6_applying_6 : decode cX6_applying 6 = .ok (.getfield 108, 3) := by decide +kernel
theorem dX6_applying_9 : decode cX6_applying 9 = .ok (.if_icmp .ge 28, 3) := by decide +kernel
theorem dX6_applying_12 : decode cX6_applying 12 = .ok (.iload_n 2, 1) := by decide +kernel
theorem dX6_applying_13 : decode cX6_applying 13 = .ok (.aload_n 0, 1) := by decide +kernel
theorem dX6_applying_14 : decode cX6_applying 14 = .ok (.iload_n 3, 1) := by decide +kernel
theorem dX6_applying_15 : decode cX6_applying 15 = .ok (.iload_n 1, 1) := by decide +kernel
theorem dX6_applying_16 : decode cX6_applying 16 = .ok (.invokevirtual 155, 3) := by decide +kernel
theorem dX6_applying_19 : decode cX6_applying 19 = .ok (.ifCond .eq 9, 3) := by decide +kernel
theorem dX6_applying_22 : decode cX6_applying 22 = .ok (.iconst 1, 1) := by decide +kernel
theorem dX6_applying_23 : decode cX6_applying 23 = .ok (.iload_n 3, 1) := by decide +kernel
theorem dX6_applying_24 : decode cX6_applying 24 = .ok (.ishl, 1) := by decide +kernel
theorem dX6_applying_25 : decode cX6_applying 25 = .ok (.goto 4, 3) := by decide +kernel
theorem dX6_applying_28 : decode cX6_applying 28 = .ok (.iconst 0, 1) := by decide +kernel
theorem dX6_applying_29 : decode cX6_applying 29 = .ok (.ior, 1) := by decide +kernel
theorem dX6_applying_30 : decode cX6_applying 30 = .ok (.istore_n 2, 1) := by decide +kernel
theorem dX6_applying_31 : decode cX6_applying 31 = .ok (.iinc 3 1, 3) := by decide +kernel
theorem dX6_applying_34 : decode cX6_applying 34 = .ok (.goto (-30), 3) := by decide +kernel
theorem dX6_applying_37 : decode cX6_applying 37 = .ok (.iload_n 2, 1) := by decide +kernel
theorem dX6_applying_38 : decode cX6_applying 38 = .ok (.ireturn, 1) := by decide +kernel
theorem dX6_demandsOf_0 : decode cX6_demandsOf 0 = .ok (.iconst 0, 1) := by decide +kernel
theorem dX6_demandsOf_1 : decode cX6_demandsOf 1 = .ok (.istore_n 2, 1) := by decide +kernel
theorem dX6_demandsOf_2 : decode cX6_demandsOf 2 = .ok (.iconst 0, 1) := by decide +kernel
theorem dX6_demandsOf_3 : decode cX6_demandsOf 3 = .ok (.istore_n 3, 1) := by decide +kernel
theorem dX6_demandsOf_4 : decode cX6_demandsOf 4 = .ok (.iload_n 3, 1) := by decide +kernel
theorem dX6_demandsOf_5 : decode cX6_demandsOf 5 = .ok (.aload_n 0, 1) := by decide +kernel
theorem dX6_demandsOf_6 : decode cX6_demandsOf 6 = .ok (.getfield 108, 3) := by decide +kernel
theorem dX6_demandsOf_9 : decode cX6_demandsOf 9 = .ok (.if_icmp .ge 31, 3) := by decide +kernel
theorem dX6_demandsOf_12 : decode cX6_demandsOf 12 = .ok (.iload_n 2, 1) := by decide +kernel
theorem dX6_demandsOf_13 : decode cX6_demandsOf 13 = .ok (.aload_n 0, 1) := by decide +kernel
theorem dX6_demandsOf_14 : decode cX6_demandsOf 14 = .ok (.iload_n 3, 1) := by decide +kernel
theorem dX6_demandsOf_15 : decode cX6_demandsOf 15 = .ok (.iload_n 1, 1) := by decide +kernel
theorem dX6_demandsOf_16 : decode cX6_demandsOf 16 = .ok (.invokevirtual 155, 3) := by decide +kernel
theorem dX6_demandsOf_19 : decode cX6_demandsOf 19 = .ok (.ifCond .eq 12, 3) := by decide +kernel
theorem dX6_demandsOf_22 : decode cX6_demandsOf 22 = .ok (.aload_n 0, 1) := by decide +kernel
theorem dX6_demandsOf_23 : decode cX6_demandsOf 23 = .ok (.getfield 16, 3) := by decide +kernel
theorem dX6_demandsOf_26 : decode cX6_demandsOf 26 = .ok (.iload_n 3, 1) := by decide +kernel
theorem dX6_demandsOf_27 : decode cX6_demandsOf 27 = .ok (.iaload, 1) := by decide +kernel
theorem dX6_demandsOf_28 : decode cX6_demandsOf 28 = .ok (.goto 4, 3) := by decide +kernel
theorem dX6_demandsOf_31 : decode cX6_demandsOf 31 = .ok (.iconst 0, 1) := by decide +kernel
theorem dX6_demandsOf_32 : decode cX6_demandsOf 32 = .ok (.ior, 1) := by decide +kernel
theorem dX6_demandsOf_33 : decode cX6_demandsOf 33 = .ok (.istore_n 2, 1) := by decide +kernel
theorem dX6_demandsOf_34 : decode cX6_demandsOf 34 = .ok (.iinc 3 1, 3) := by decide +kernel
theorem dX6_demandsOf_37 : decode cX6_demandsOf 37 = .ok (.goto (-33), 3) := by decide +kernel
theorem dX6_demandsOf_40 : decode cX6_demandsOf 40 = .ok (.iconst 0, 1) := by decide +kernel
theorem dX6_demandsOf_41 : decode cX6_demandsOf 41 = .ok (.istore_n 3, 1) := by decide +kernel
theorem dX6_demandsOf_42 : decode cX6_demandsOf 42 = .ok (.iload_n 3, 1) := by decide +kernel
theorem dX6_demandsOf_43 : decode cX6_demandsOf 43 = .ok (.bipush 8, 2) := by decide +kernel
theorem dX6_demandsOf_45 : decode cX6_demandsOf 45 = .ok (.if_icmp .ge 35, 3) := by decide +kernel
theorem dX6_demandsOf_48 : decode cX6_demandsOf 48 = .ok (.iload_n 2, 1) := by decide +kernel
theorem dX6_demandsOf_49 : decode cX6_demandsOf 49 = .ok (.aload_n 0, 1) := by decide +kernel
theorem dX6_demandsOf_50 : decode cX6_demandsOf 50 = .ok (.getfield 44, 3) := by decide +kernel
theorem dX6_demandsOf_53 : decode cX6_demandsOf 53 = .ok (.bipush 8, 2) := by decide +kernel
theorem dX6_demandsOf_55 : decode cX6_demandsOf 55 = .ok (.iload_n 1, 1) := by decide +kernel
theorem dX6_demandsOf_56 : decode cX6_demandsOf 56 = .ok (.imul, 1) := by decide +kernel
theorem dX6_demandsOf_57 : decode cX6_demandsOf 57 = .ok (.iload_n 3, 1) := by decide +kernel
theorem dX6_demandsOf_58 : decode cX6_demandsOf 58 = .ok (.iadd, 1) := by decide +kernel
theorem dX6_demandsOf_59 : decode cX6_demandsOf 59 = .ok (.iaload, 1) := by decide +kernel
theorem dX6_demandsOf_60 : decode cX6_demandsOf 60 = .ok (.ifCond .ne 11, 3) := by decide +kernel
theorem dX6_demandsOf_63 : decode cX6_demandsOf 63 = .ok (.iconst 1, 1) := by decide +kernel
theorem dX6_demandsOf_64 : decode cX6_demandsOf 64 = .ok (.iload_n 3, 1) := by decide +kernel
theorem dX6_demandsOf_65 : decode cX6_demandsOf 65 = .ok (.ishl, 1) := by decide +kernel
theorem dX6_demandsOf_66 : decode cX6_demandsOf 66 = .ok (.iconst (-1), 1) := by decide +kernel
theorem dX6_demandsOf_67 : decode cX6_demandsOf 67 = .ok (.ixor, 1) := by decide +kernel
theorem dX6_demandsOf_68 : decode cX6_demandsOf 68 = .ok (.goto 4, 3) := by decide +kernel
theorem dX6_demandsOf_71 : decode cX6_demandsOf 71 = .ok (.iconst (-1), 1) := by decide +kernel
theorem dX6_demandsOf_72 : decode cX6_demandsOf 72 = .ok (.iand, 1) := by decide +kernel
theorem dX6_demandsOf_73 : decode cX6_demandsOf 73 = .ok (.istore_n 2, 1) := by decide +kernel
theorem dX6_demandsOf_74 : decode cX6_demandsOf 74 = .ok (.iinc 3 1, 3) := by decide +kernel
theorem dX6_demandsOf_77 : decode cX6_demandsOf 77 = .ok (.goto (-35), 3) := by decide +kernel
theorem dX6_demandsOf_80 : decode cX6_demandsOf 80 = .ok (.iload_n 2, 1) := by decide +kernel
theorem dX6_demandsOf_81 : decode cX6_demandsOf 81 = .ok (.ireturn, 1) := by decide +kernel
theorem dX6_shown_0 : decode cX6_shown 0 = .ok (.aload_n 0, 1) := by decide +kernel
theorem dX6_shown_1 : decode cX6_shown 1 = .ok (.getfield 53, 3) := by decide +kernel
theorem dX6_shown_4 : decode cX6_shown 4 = .ok (.iload_n 1, 1) := by decide +kernel
theorem dX6_shown_5 : decode cX6_shown 5 = .ok (.iaload, 1) := by decide +kernel
theorem dX6_shown_6 : decode cX6_shown 6 = .ok (.istore_n 2, 1) := by decide +kernel
theorem dX6_shown_7 : decode cX6_shown 7 = .ok (.iconst 0, 1) := by decide +kernel
theorem dX6_shown_8 : decode cX6_shown 8 = .ok (.istore_n 3, 1) := by decide +kernel
theorem dX6_shown_9 : decode cX6_shown 9 = .ok (.iload_n 3, 1) := by decide +kernel
theorem dX6_shown_10 : decode cX6_shown 10 = .ok (.aload_n 0, 1) := by decide +kernel
theorem dX6_shown_11 : decode cX6_shown 11 = .ok (.getfield 115, 3) := by decide +kernel
theorem dX6_shown_14 : decode cX6_shown 14 = .ok (.if_icmp .ge 56, 3) := by decide +kernel
theorem dX6_shown_17 : decode cX6_shown 17 = .ok (.iload_n 2, 1) := by decide +kernel
theorem dX6_shown_18 : decode cX6_shown 18 = .ok (.aload_n 0, 1) := by decide +kernel
theorem dX6_shown_19 : decode cX6_shown 19 = .ok (.getfield 142, 3) := by decide +kernel
theorem dX6_shown_22 : decode cX6_shown 22 = .ok (.aload_n 0, 1) := by decide +kernel
theorem dX6_shown_23 : decode cX6_shown 23 = .ok (.getfield 32, 3) := by decide +kernel
theorem dX6_shown_26 : decode cX6_shown 26 = .ok (.iload_n 3, 1) := by decide +kernel
theorem dX6_shown_27 : decode cX6_shown 27 = .ok (.iaload, 1) := by decide +kernel
theorem dX6_shown_28 : decode cX6_shown 28 = .ok (.aload_n 0, 1) := by decide +kernel
theorem dX6_shown_29 : decode cX6_shown 29 = .ok (.getfield 35, 3) := by decide +kernel
theorem dX6_shown_32 : decode cX6_shown 32 = .ok (.iload_n 3, 1) := by decide +kernel
theorem dX6_shown_33 : decode cX6_shown 33 = .ok (.iaload, 1) := by decide +kernel
theorem dX6_shown_34 : decode cX6_shown 34 = .ok (.invokestatic 111, 3) := by decide +kernel
theorem dX6_shown_37 : decode cX6_shown 37 = .ok (.ifCond .eq 24, 3) := by decide +kernel
theorem dX6_shown_40 : decode cX6_shown 40 = .ok (.aload_n 0, 1) := by decide +kernel
theorem dX6_shown_41 : decode cX6_shown 41 = .ok (.getfield 50, 3) := by decide +kernel
theorem dX6_shown_44 : decode cX6_shown 44 = .ok (.bipush 12, 2) := by decide +kernel
theorem dX6_shown_46 : decode cX6_shown 46 = .ok (.iload_n 1, 1) := by decide +kernel
theorem dX6_shown_47 : decode cX6_shown 47 = .ok (.imul, 1) := by decide +kernel
theorem dX6_shown_48 : decode cX6_shown 48 = .ok (.iload_n 3, 1) := by decide +kernel
theorem dX6_shown_49 : decode cX6_shown 49 = .ok (.iadd, 1) := by decide +kernel
theorem dX6_shown_50 : decode cX6_shown 50 = .ok (.iaload, 1) := by decide +kernel
theorem dX6_shown_51 : decode cX6_shown 51 = .ok (.aload_n 0, 1) := by decide +kernel
theorem dX6_shown_52 : decode cX6_shown 52 = .ok (.getfield 29, 3) := by decide +kernel
theorem dX6_shown_55 : decode cX6_shown 55 = .ok (.iload_n 3, 1) := by decide +kernel
theorem dX6_shown_56 : decode cX6_shown 56 = .ok (.iaload, 1) := by decide +kernel
theorem dX6_shown_57 : decode cX6_shown 57 = .ok (.iand, 1) := by decide +kernel
theorem dX6_shown_58 : decode cX6_shown 58 = .ok (.goto 4, 3) := by decide +kernel
theorem dX6_shown_61 : decode cX6_shown 61 = .ok (.iconst 0, 1) := by decide +kernel
theorem dX6_shown_62 : decode cX6_shown 62 = .ok (.ior, 1) := by decide +kernel
theorem dX6_shown_63 : decode cX6_shown 63 = .ok (.istore_n 2, 1) := by decide +kernel
theorem dX6_shown_64 : decode cX6_shown 64 = .ok (.iinc 3 1, 3) := by decide +kernel
theorem dX6_shown_67 : decode cX6_shown 67 = .ok (.goto (-58), 3) := by decide +kernel
theorem dX6_shown_70 : decode cX6_shown 70 = .ok (.iload_n 2, 1) := by decide +kernel
theorem dX6_shown_71 : decode cX6_shown 71 = .ok (.ireturn, 1) := by decide +kernel
theorem dX6_lowOf_0 : decode cX6_lowOf 0 = .ok (.aload_n 0, 1) := by decide +kernel
theorem dX6_lowOf_1 : decode cX6_lowOf 1 = .ok (.iload_n 1, 1) := by decide +kernel
theorem dX6_lowOf_2 : decode cX6_lowOf 2 = .ok (.invokevirtual 158, 3) := by decide +kernel
theorem dX6_lowOf_5 : decode cX6_lowOf 5 = .ok (.istore_n 2, 1) := by decide +kernel
theorem dX6_lowOf_6 : decode cX6_lowOf 6 = .ok (.iconst 0, 1) := by decide +kernel
theorem dX6_lowOf_7 : decode cX6_lowOf 7 = .ok (.istore_n 3, 1) := by decide +kernel
theorem dX6_lowOf_8 : decode cX6_lowOf 8 = .ok (.iload_n 3, 1) := by decide +kernel
theorem dX6_lowOf_9 : decode cX6_lowOf 9 = .ok (.bipush 8, 2) := by decide +kernel
theorem dX6_lowOf_11 : decode cX6_lowOf 11 = .ok (.if_icmp .ge 36, 3) := by decide +kernel
theorem dX6_lowOf_14 : decode cX6_lowOf 14 = .ok (.iload_n 2, 1) := by decide +kernel
theorem dX6_lowOf_15 : decode cX6_lowOf 15 = .ok (.aload_n 0, 1) := by decide +kernel
theorem dX6_lowOf_16 : decode cX6_lowOf 16 = .ok (.getfield 47, 3) := by decide +kernel
theorem dX6_lowOf_19 : decode cX6_lowOf 19 = .ok (.bipush 8, 2) := by decide +kernel
theorem dX6_lowOf_21 : decode cX6_lowOf 21 = .ok (.iload_n 1, 1) := by decide +kernel
theorem dX6_lowOf_22 : decode cX6_lowOf 22 = .ok (.imul, 1) := by decide +kernel
theorem dX6_lowOf_23 : decode cX6_lowOf 23 = .ok (.iload_n 3, 1) := by decide +kernel
theorem dX6_lowOf_24 : decode cX6_lowOf 24 = .ok (.iadd, 1) := by decide +kernel
theorem dX6_lowOf_25 : decode cX6_lowOf 25 = .ok (.iaload, 1) := by decide +kernel
theorem dX6_lowOf_26 : decode cX6_lowOf 26 = .ok (.iconst 4, 1) := by decide +kernel
theorem dX6_lowOf_27 : decode cX6_lowOf 27 = .ok (.if_icmp .le 11, 3) := by decide +kernel
theorem dX6_lowOf_30 : decode cX6_lowOf 30 = .ok (.iconst 1, 1) := by decide +kernel
theorem dX6_lowOf_31 : decode cX6_lowOf 31 = .ok (.iload_n 3, 1) := by decide +kernel
theorem dX6_lowOf_32 : decode cX6_lowOf 32 = .ok (.ishl, 1) := by decide +kernel
theorem dX6_lowOf_33 : decode cX6_lowOf 33 = .ok (.iconst (-1), 1) := by decide +kernel
theorem dX6_lowOf_34 : decode cX6_lowOf 34 = .ok (.ixor, 1) := by decide +kernel
theorem dX6_lowOf_35 : decode cX6_lowOf 35 = .ok (.goto 4, 3) := by decide +kernel
theorem dX6_lowOf_38 : decode cX6_lowOf 38 = .ok (.iconst (-1), 1) := by decide +kernel
theorem dX6_lowOf_39 : decode cX6_lowOf 39 = .ok (.iand, 1) := by decide +kernel
theorem dX6_lowOf_40 : decode cX6_lowOf 40 = .ok (.istore_n 2, 1) := by decide +kernel
theorem dX6_lowOf_41 : decode cX6_lowOf 41 = .ok (.iinc 3 1, 3) := by decide +kernel
theorem dX6_lowOf_44 : decode cX6_lowOf 44 = .ok (.goto (-36), 3) := by decide +kernel
theorem dX6_lowOf_47 : decode cX6_lowOf 47 = .ok (.iload_n 2, 1) := by decide +kernel
theorem dX6_lowOf_48 : decode cX6_lowOf 48 = .ok (.ireturn, 1) := by decide +kernel
theorem dX6_keptOf_0 : decode cX6_keptOf 0 = .ok (.aload_n 0, 1) := by decide +kernel
theorem dX6_keptOf_1 : decode cX6_keptOf 1 = .ok (.iload_n 1, 1) := by decide +kernel
theorem dX6_keptOf_2 : decode cX6_keptOf 2 = .ok (.invokevirtual 162, 3) := by decide +kernel
theorem dX6_keptOf_5 : decode cX6_keptOf 5 = .ok (.aload_n 0, 1) := by decide +kernel
theorem dX6_keptOf_6 : decode cX6_keptOf 6 = .ok (.iload_n 1, 1) := by decide +kernel
theorem dX6_keptOf_7 : decode cX6_keptOf 7 = .ok (.invokevirtual 165, 3) := by decide +kernel
theorem dX6_keptOf_10 : decode cX6_keptOf 10 = .ok (.iand, 1) := by decide +kernel
theorem dX6_keptOf_11 : decode cX6_keptOf 11 = .ok (.ireturn, 1) := by decide +kernel
theorem dX6_wayOf_0 : decode cX6_wayOf 0 = .ok (.aload_n 0, 1) := by decide +kernel
theorem dX6_wayOf_1 : decode cX6_wayOf 1 = .ok (.iload_n 1, 1) := by decide +kernel
theorem dX6_wayOf_2 : decode cX6_wayOf 2 = .ok (.invokevirtual 158, 3) := by decide +kernel
theorem dX6_wayOf_5 : decode cX6_wayOf 5 = .ok (.istore_n 2, 1) := by decide +kernel
theorem dX6_wayOf_6 : decode cX6_wayOf 6 = .ok (.iconst 0, 1) := by decide +kernel
theorem dX6_wayOf_7 : decode cX6_wayOf 7 = .ok (.istore_n 3, 1) := by decide +kernel
theorem dX6_wayOf_8 : decode cX6_wayOf 8 = .ok (.iconst 0, 1) := by decide +kernel
theorem dX6_wayOf_9 : decode cX6_wayOf 9 = .ok (.istore 4, 2) := by decide +kernel
theorem dX6_wayOf_11 : decode cX6_wayOf 11 = .ok (.iload 4, 2) := by decide +kernel
theorem dX6_wayOf_13 : decode cX6_wayOf 13 = .ok (.bipush 8, 2) := by decide +kernel
theorem dX6_wayOf_15 : decode cX6_wayOf 15 = .ok (.if_icmp .ge 50, 3) := by decide +kernel
theorem dX6_wayOf_18 : decode cX6_wayOf 18 = .ok (.iload_n 2, 1) := by decide +kernel
theorem dX6_wayOf_19 : decode cX6_wayOf 19 = .ok (.iload 4, 2) := by decide +kernel
theorem dX6_wayOf_21 : decode cX6_wayOf 21 = .ok (.ishr, 1) := by decide +kernel
theorem dX6_wayOf_22 : decode cX6_wayOf 22 = .ok (.iconst 1, 1) := by decide +kernel
theorem dX6_wayOf_23 : decode cX6_wayOf 23 = .ok (.iand, 1) := by decide +kernel
theorem dX6_wayOf_24 : decode cX6_wayOf 24 = .ok (.iconst 1, 1) := by decide +kernel
theorem dX6_wayOf_25 : decode cX6_wayOf 25 = .ok (.if_icmp .ne 18, 3) := by decide +kernel
theorem dX6_wayOf_28 : decode cX6_wayOf 28 = .ok (.aload_n 0, 1) := by decide +kernel
theorem dX6_wayOf_29 : decode cX6_wayOf 29 = .ok (.getfield 44, 3) := by decide +kernel
theorem dX6_wayOf_32 : decode cX6_wayOf 32 = .ok (.bipush 8, 2) := by decide +kernel
theorem dX6_wayOf_34 : decode cX6_wayOf 34 = .ok (.iload_n 1, 1) := by decide +kernel
theorem dX6_wayOf_35 : decode cX6_wayOf 35 = .ok (.imul, 1) := by decide +kernel
theorem dX6_wayOf_36 : decode cX6_wayOf 36 = .ok (.iload 4, 2) := by decide +kernel
theorem dX6_wayOf_38 : decode cX6_wayOf 38 = .ok (.iadd, 1) := by decide +kernel
theorem dX6_wayOf_39 : decode cX6_wayOf 39 = .ok (.iaload, 1) := by decide +kernel
theorem dX6_wayOf_40 : decode cX6_wayOf 40 = .ok (.goto 4, 3) := by decide +kernel
theorem dX6_wayOf_43 : decode cX6_wayOf 43 = .ok (.iconst 0, 1) := by decide +kernel
theorem dX6_wayOf_44 : decode cX6_wayOf 44 = .ok (.istore 5, 2) := by decide +kernel
theorem dX6_wayOf_46 : decode cX6_wayOf 46 = .ok (.iload 5, 2) := by decide +kernel
theorem dX6_wayOf_48 : decode cX6_wayOf 48 = .ok (.iload_n 3, 1) := by decide +kernel
theorem dX6_wayOf_49 : decode cX6_wayOf 49 = .ok (.if_icmp .le 8, 3) := by decide +kernel
theorem dX6_wayOf_52 : decode cX6_wayOf 52 = .ok (.iload 5, 2) := by decide +kernel
theorem dX6_wayOf_54 : decode cX6_wayOf 54 = .ok (.goto 4, 3) := by decide +kernel
theorem dX6_wayOf_57 : decode cX6_wayOf 57 = .ok (.iload_n 3, 1) := by decide +kernel
theorem dX6_wayOf_58 : decode cX6_wayOf 58 = .ok (.istore_n 3, 1) := by decide +kernel
theorem dX6_wayOf_59 : decode cX6_wayOf 59 = .ok (.iinc 4 1, 3) := by decide +kernel
theorem dX6_wayOf_62 : decode cX6_wayOf 62 = .ok (.goto (-51), 3) := by decide +kernel
theorem dX6_wayOf_65 : decode cX6_wayOf 65 = .ok (.iload_n 3, 1) := by decide +kernel
theorem dX6_wayOf_66 : decode cX6_wayOf 66 = .ok (.bipush 6, 2) := by decide +kernel
theorem dX6_wayOf_68 : decode cX6_wayOf 68 = .ok (.if_icmp .le 7, 3) := by decide +kernel
theorem dX6_wayOf_71 : decode cX6_wayOf 71 = .ok (.iconst 2, 1) := by decide +kernel
theorem dX6_wayOf_72 : decode cX6_wayOf 72 = .ok (.goto 13, 3) := by decide +kernel
theorem dX6_wayOf_75 : decode cX6_wayOf 75 = .ok (.iload_n 3, 1) := by decide +kernel
theorem dX6_wayOf_76 : decode cX6_wayOf 76 = .ok (.iconst 3, 1) := by decide +kernel
theorem dX6_wayOf_77 : decode cX6_wayOf 77 = .ok (.if_icmp .le 7, 3) := by decide +kernel
theorem dX6_wayOf_80 : decode cX6_wayOf 80 = .ok (.iconst 1, 1) := by decide +kernel
theorem dX6_wayOf_81 : decode cX6_wayOf 81 = .ok (.goto 4, 3) := by decide +kernel
theorem dX6_wayOf_84 : decode cX6_wayOf 84 = .ok (.iconst 0, 1) := by decide +kernel
theorem dX6_wayOf_85 : decode cX6_wayOf 85 = .ok (.ireturn, 1) := by decide +kernel
theorem dX6_hasScope_0 : decode cX6_hasScope 0 = .ok (.aload_n 0, 1) := by decide +kernel
theorem dX6_hasScope_1 : decode cX6_hasScope 1 = .ok (.iload_n 2, 1) := by decide +kernel
theorem dX6_hasScope_2 : decode cX6_hasScope 2 = .ok (.invokevirtual 168, 3) := by decide +kernel
theorem dX6_hasScope_5 : decode cX6_hasScope 5 = .ok (.aload_n 0, 1) := by decide +kernel
theorem dX6_hasScope_6 : decode cX6_hasScope 6 = .ok (.getfield 71, 3) := by decide +kernel
theorem dX6_hasScope_9 : decode cX6_hasScope 9 = .ok (.iload_n 1, 1) := by decide +kernel
theorem dX6_hasScope_10 : decode cX6_hasScope 10 = .ok (.iaload, 1) := by decide +kernel
theorem dX6_hasScope_11 : decode cX6_hasScope 11 = .ok (.iconst (-1), 1) := by decide +kernel
theorem dX6_hasScope_12 : decode cX6_hasScope 12 = .ok (.ixor, 1) := by decide +kernel
theorem dX6_hasScope_13 : decode cX6_hasScope 13 = .ok (.iand, 1) := by decide +kernel
theorem dX6_hasScope_14 : decode cX6_hasScope 14 = .ok (.ifCond .ne 7, 3) := by decide +kernel
theorem dX6_hasScope_17 : decode cX6_hasScope 17 = .ok (.iconst 1, 1) := by decide +kernel
theorem dX6_hasScope_18 : decode cX6_hasScope 18 = .ok (.goto 4, 3) := by decide +kernel
theorem dX6_hasScope_21 : decode cX6_hasScope 21 = .ok (.iconst 0, 1) := by decide +kernel
theorem dX6_hasScope_22 : decode cX6_hasScope 22 = .ok (.ireturn, 1) := by decide +kernel
theorem dX6_holds_0 : decode cX6_holds 0 = .ok (.aload_n 0, 1) := by decide +kernel
theorem dX6_holds_1 : decode cX6_holds 1 = .ok (.getfield 56, 3) := by decide +kernel
theorem dX6_holds_4 : decode cX6_holds 4 = .ok (.iload_n 1, 1) := by decide +kernel
theorem dX6_holds_5 : decode cX6_holds 5 = .ok (.iaload, 1) := by decide +kernel
theorem dX6_holds_6 : decode cX6_holds 6 = .ok (.istore_n 2, 1) := by decide +kernel
theorem dX6_holds_7 : decode cX6_holds 7 = .ok (.iload_n 2, 1) := by decide +kernel
theorem dX6_holds_8 : decode cX6_holds 8 = .ok (.iconst (-1), 1) := by decide +kernel
theorem dX6_holds_9 : decode cX6_holds 9 = .ok (.if_icmp .eq 55, 3) := by decide +kernel
theorem dX6_holds_12 : decode cX6_holds 12 = .ok (.aload_n 0, 1) := by decide +kernel
theorem dX6_holds_13 : decode cX6_holds 13 = .ok (.getfield 142, 3) := by decide +kernel
theorem dX6_holds_16 : decode cX6_holds 16 = .ok (.aload_n 0, 1) := by decide +kernel
theorem dX6_holds_17 : decode cX6_holds 17 = .ok (.getfield 59, 3) := by decide +kernel
theorem dX6_holds_20 : decode cX6_holds 20 = .ok (.iload_n 1, 1) := by decide +kernel
theorem dX6_holds_21 : decode cX6_holds 21 = .ok (.iaload, 1) := by decide +kernel
theorem dX6_holds_22 : decode cX6_holds 22 = .ok (.if_icmp .gt 42, 3) := by decide +kernel
theorem dX6_holds_25 : decode cX6_holds 25 = .ok (.aload_n 0, 1) := by decide +kernel
theorem dX6_holds_26 : decode cX6_holds 26 = .ok (.iload_n 2, 1) := by decide +kernel
theorem dX6_holds_27 : decode cX6_holds 27 = .ok (.iload_n 1, 1) := by decide +kernel
theorem dX6_holds_28 : decode cX6_holds 28 = .ok (.invokevirtual 171, 3) := by decide +kernel
theorem dX6_holds_31 : decode cX6_holds 31 = .ok (.ifCond .eq 33, 3) := by decide +kernel
theorem dX6_holds_34 : decode cX6_holds 34 = .ok (.aload_n 0, 1) := by decide +kernel
theorem dX6_holds_35 : decode cX6_holds 35 = .ok (.getfield 74, 3) := by decide +kernel
theorem dX6_holds_38 : decode cX6_holds 38 = .ok (.iload_n 2, 1) := by decide +kernel
theorem dX6_holds_39 : decode cX6_holds 39 = .ok (.iaload, 1) := by decide +kernel
theorem dX6_holds_40 : decode cX6_holds 40 = .ok (.iconst (-1), 1) := by decide +kernel
theorem dX6_holds_41 : decode cX6_holds 41 = .ok (.if_icmp .eq 19, 3) := by decide +kernel
theorem dX6_holds_44 : decode cX6_holds 44 = .ok (.aload_n 0, 1) := by decide +kernel
theorem dX6_holds_45 : decode cX6_holds 45 = .ok (.getfield 142, 3) := by decide +kernel
theorem dX6_holds_48 : decode cX6_holds 48 = .ok (.aload_n 0, 1) := by decide +kernel
theorem dX6_holds_49 : decode cX6_holds 49 = .ok (.getfield 74, 3) := by decide +kernel
theorem dX6_holds_52 : decode cX6_holds 52 = .ok (.iload_n 2, 1) := by decide +kernel
theorem dX6_holds_53 : decode cX6_holds 53 = .ok (.iaload, 1) := by decide +kernel
theorem dX6_holds_54 : decode cX6_holds 54 = .ok (.bipush 100, 2) := by decide +kernel
theorem dX6_holds_56 : decode cX6_holds 56 = .ok (.iadd, 1) := by decide +kernel
theorem dX6_holds_57 : decode cX6_holds 57 = .ok (.if_icmp .gt 7, 3) := by decide +kernel
theorem dX6_holds_60 : decode cX6_holds 60 = .ok (.iconst 1, 1) := by decide +kernel
theorem dX6_holds_61 : decode cX6_holds 61 = .ok (.goto 4, 3) := by decide +kernel
theorem dX6_holds_64 : decode cX6_holds 64 = .ok (.iconst 0, 1) := by decide +kernel
theorem dX6_holds_65 : decode cX6_holds 65 = .ok (.ireturn, 1) := by decide +kernel
theorem dX6_wantingOf_0 : decode cX6_wantingOf 0 = .ok (.aload_n 0, 1) := by decide +kernel
theorem dX6_wantingOf_1 : decode cX6_wantingOf 1 = .ok (.getfield 68, 3) := by decide +kernel
theorem dX6_wantingOf_4 : decode cX6_wantingOf 4 = .ok (.iload_n 1, 1) := by decide +kernel
theorem dX6_wantingOf_5 : decode cX6_wantingOf 5 = .ok (.iaload, 1) := by decide +kernel
theorem dX6_wantingOf_6 : decode cX6_wantingOf 6 = .ok (.invokestatic 174, 3) := by decide +kernel
theorem dX6_wantingOf_9 : decode cX6_wantingOf 9 = .ok (.iconst 3, 1) := by decide +kernel
theorem dX6_wantingOf_10 : decode cX6_wantingOf 10 = .ok (.if_icmp .lt 5, 3) := by decide +kernel
theorem dX6_wantingOf_13 : decode cX6_wantingOf 13 = .ok (.iconst 1, 1) := by decide +kernel
theorem dX6_wantingOf_14 : decode cX6_wantingOf 14 = .ok (.ireturn, 1) := by decide +kernel
theorem dX6_wantingOf_15 : decode cX6_wantingOf 15 = .ok (.aload_n 0, 1) := by decide +kernel
theorem dX6_wantingOf_16 : decode cX6_wantingOf 16 = .ok (.iload_n 1, 1) := by decide +kernel
theorem dX6_wantingOf_17 : decode cX6_wantingOf 17 = .ok (.invokevirtual 158, 3) := by decide +kernel
theorem dX6_wantingOf_20 : decode cX6_wantingOf 20 = .ok (.istore_n 2, 1) := by decide +kernel
theorem dX6_wantingOf_21 : decode cX6_wantingOf 21 = .ok (.aload_n 0, 1) := by decide +kernel
theorem dX6_wantingOf_22 : decode cX6_wantingOf 22 = .ok (.iload_n 1, 1) := by decide +kernel
theorem dX6_wantingOf_23 : decode cX6_wantingOf 23 = .ok (.invokevirtual 162, 3) := by decide +kernel
theorem dX6_wantingOf_26 : decode cX6_wantingOf 26 = .ok (.iload_n 2, 1) := by decide +kernel
theorem dX6_wantingOf_27 : decode cX6_wantingOf 27 = .ok (.if_icmp .eq 5, 3) := by decide +kernel
theorem dX6_wantingOf_30 : decode cX6_wantingOf 30 = .ok (.iconst 2, 1) := by decide +kernel
theorem dX6_wantingOf_31 : decode cX6_wantingOf 31 = .ok (.ireturn, 1) := by decide +kernel
theorem dX6_wantingOf_32 : decode cX6_wantingOf 32 = .ok (.aload_n 0, 1) := by decide +kernel
theorem dX6_wantingOf_33 : decode cX6_wantingOf 33 = .ok (.iload_n 1, 1) := by decide +kernel
theorem dX6_wantingOf_34 : decode cX6_wantingOf 34 = .ok (.invokevirtual 177, 3) := by decide +kernel
theorem dX6_wantingOf_37 : decode cX6_wantingOf 37 = .ok (.iload_n 2, 1) := by decide +kernel
theorem dX6_wantingOf_38 : decode cX6_wantingOf 38 = .ok (.if_icmp .eq 5, 3) := by decide +kernel
theorem dX6_wantingOf_41 : decode cX6_wantingOf 41 = .ok (.iconst 3, 1) := by decide +kernel
theorem dX6_wantingOf_42 : decode cX6_wantingOf 42 = .ok (.ireturn, 1) := by decide +kernel
theorem dX6_wantingOf_43 : decode cX6_wantingOf 43 = .ok (.aload_n 0, 1) := by decide +kernel
theorem dX6_wantingOf_44 : decode cX6_wantingOf 44 = .ok (.iload_n 1, 1) := by decide +kernel
theorem dX6_wantingOf_45 : decode cX6_wantingOf 45 = .ok (.invokevirtual 180, 3) := by decide +kernel
theorem dX6_wantingOf_48 : decode cX6_wantingOf 48 = .ok (.istore_n 3, 1) := by decide +kernel
theorem dX6_wantingOf_49 : decode cX6_wantingOf 49 = .ok (.iload_n 3, 1) := by decide +kernel
theorem dX6_wantingOf_50 : decode cX6_wantingOf 50 = .ok (.ifCond .eq 13, 3) := by decide +kernel
theorem dX6_wantingOf_53 : decode cX6_wantingOf 53 = .ok (.aload_n 0, 1) := by decide +kernel
theorem dX6_wantingOf_54 : decode cX6_wantingOf 54 = .ok (.iload_n 1, 1) := by decide +kernel
theorem dX6_wantingOf_55 : decode cX6_wantingOf 55 = .ok (.invokevirtual 183, 3) := by decide +kernel
theorem dX6_wantingOf_58 : decode cX6_wantingOf 58 = .ok (.ifCond .ne 5, 3) := by decide +kernel
theorem dX6_wantingOf_61 : decode cX6_wantingOf 61 = .ok (.iconst 4, 1) := by decide +kernel
theorem dX6_wantingOf_62 : decode cX6_wantingOf 62 = .ok (.ireturn, 1) := by decide +kernel
theorem dX6_wantingOf_63 : decode cX6_wantingOf 63 = .ok (.iload_n 3, 1) := by decide +kernel
theorem dX6_wantingOf_64 : decode cX6_wantingOf 64 = .ok (.iconst 2, 1) := by decide +kernel
theorem dX6_wantingOf_65 : decode cX6_wantingOf 65 = .ok (.if_icmp .ne 32, 3) := by decide +kernel
theorem dX6_wantingOf_68 : decode cX6_wantingOf 68 = .ok (.aload_n 0, 1) := by decide +kernel
theorem dX6_wantingOf_69 : decode cX6_wantingOf 69 = .ok (.getfield 62, 3) := by decide +kernel
theorem dX6_wantingOf_72 : decode cX6_wantingOf 72 = .ok (.iload_n 1, 1) := by decide +kernel
theorem dX6_wantingOf_73 : decode cX6_wantingOf 73 = .ok (.iaload, 1) := by decide +kernel
theorem dX6_wantingOf_74 : decode cX6_wantingOf 74 = .ok (.iconst (-1), 1) := by decide +kernel
theorem dX6_wantingOf_75 : decode cX6_wantingOf 75 = .ok (.if_icmp .eq 20, 3) := by decide +kernel
theorem dX6_wantingOf_78 : decode cX6_wantingOf 78 = .ok (.aload_n 0, 1) := by decide +kernel
theorem dX6_wantingOf_79 : decode cX6_wantingOf 79 = .ok (.getfield 142, 3) := by decide +kernel
theorem dX6_wantingOf_82 : decode cX6_wantingOf 82 = .ok (.aload_n 0, 1) := by decide +kernel
theorem dX6_wantingOf_83 : decode cX6_wantingOf 83 = .ok (.getfield 62, 3) := by decide +kernel
theorem dX6_wantingOf_86 : decode cX6_wantingOf 86 = .ok (.iload_n 1, 1) := by decide +kernel
theorem dX6_wantingOf_87 : decode cX6_wantingOf 87 = .ok (.iaload, 1) := by decide +kernel
theorem dX6_wantingOf_88 : decode cX6_wantingOf 88 = .ok (.sipush 365, 3) := by decide +kernel
theorem dX6_wantingOf_91 : decode cX6_wantingOf 91 = .ok (.iadd, 1) := by decide +kernel
theorem dX6_wantingOf_92 : decode cX6_wantingOf 92 = .ok (.if_icmp .le 5, 3) := by decide +kernel
theorem dX6_wantingOf_95 : decode cX6_wantingOf 95 = .ok (.iconst 5, 1) := by decide +kernel
theorem dX6_wantingOf_96 : decode cX6_wantingOf 96 = .ok (.ireturn, 1) := by decide +kernel
theorem dX6_wantingOf_97 : decode cX6_wantingOf 97 = .ok (.iload_n 2, 1) := by decide +kernel
theorem dX6_wantingOf_98 : decode cX6_wantingOf 98 = .ok (.ifCond .eq 18, 3) := by decide +kernel
theorem dX6_wantingOf_101 : decode cX6_wantingOf 101 = .ok (.aload_n 0, 1) := by decide +kernel
theorem dX6_wantingOf_102 : decode cX6_wantingOf 102 = .ok (.getfield 65, 3) := by decide +kernel
theorem dX6_wantingOf_105 : decode cX6_wantingOf 105 = .ok (.iload_n 1, 1) := by decide +kernel
theorem dX6_wantingOf_106 : decode cX6_wantingOf 106 = .ok (.iaload, 1) := by decide +kernel
theorem dX6_wantingOf_107 : decode cX6_wantingOf 107 = .ok (.iconst (-1), 1) := by decide +kernel
theorem dX6_wantingOf_108 : decode cX6_wantingOf 108 = .ok (.if_icmp .ne 8, 3) := by decide +kernel
theorem dX6_wantingOf_111 : decode cX6_wantingOf 111 = .ok (.bipush 6, 2) := by decide +kernel
theorem dX6_wantingOf_113 : decode cX6_wantingOf 113 = .ok (.goto 4, 3) := by decide +kernel
theorem dX6_wantingOf_116 : decode cX6_wantingOf 116 = .ok (.iconst 0, 1) := by decide +kernel
theorem dX6_wantingOf_117 : decode cX6_wantingOf 117 = .ok (.ireturn, 1) := by decide +kernel
theorem dX6_declare_0 : decode cX6_declare 0 = .ok (.aload_n 0, 1) := by decide +kernel
theorem dX6_declare_1 : decode cX6_declare 1 = .ok (.iload_n 1, 1) := by decide +kernel
theorem dX6_declare_2 : decode cX6_declare 2 = .ok (.invokevirtual 145, 3) := by decide +kernel
theorem dX6_declare_5 : decode cX6_declare 5 = .ok (.istore_n 2, 1) := by decide +kernel
theorem dX6_declare_6 : decode cX6_declare 6 = .ok (.aload_n 0, 1) := by decide +kernel
theorem dX6_declare_7 : decode cX6_declare 7 = .ok (.iload_n 2, 1) := by decide +kernel
theorem dX6_declare_8 : decode cX6_declare 8 = .ok (.ifCond .ne 7, 3) := by decide +kernel
theorem dX6_declare_11 : decode cX6_declare 11 = .ok (.iconst 1, 1) := by decide +kernel
theorem dX6_declare_12 : decode cX6_declare 12 = .ok (.goto 19, 3) := by decide +kernel
theorem dX6_declare_15 : decode cX6_declare 15 = .ok (.aload_n 0, 1) := by decide +kernel
theorem dX6_declare_16 : decode cX6_declare 16 = .ok (.iload_n 1, 1) := by decide +kernel
theorem dX6_declare_17 : decode cX6_declare 17 = .ok (.invokevirtual 186, 3) := by decide +kernel
theorem dX6_declare_20 : decode cX6_declare 20 = .ok (.bipush 6, 2) := by decide +kernel
theorem dX6_declare_22 : decode cX6_declare 22 = .ok (.irem, 1) := by decide +kernel
theorem dX6_declare_23 : decode cX6_declare 23 = .ok (.ifCond .eq 7, 3) := by decide +kernel
theorem dX6_declare_26 : decode cX6_declare 26 = .ok (.iconst 2, 1) := by decide +kernel
theorem dX6_declare_27 : decode cX6_declare 27 = .ok (.goto 4, 3) := by decide +kernel
theorem dX6_declare_30 : decode cX6_declare 30 = .ok (.iconst 0, 1) := by decide +kernel
theorem dX6_declare_31 : decode cX6_declare 31 = .ok (.invokevirtual 127, 3) := by decide +kernel
theorem dX6_declare_34 : decode cX6_declare 34 = .ok (.ifCond .eq 5, 3) := by decide +kernel
theorem dX6_declare_37 : decode cX6_declare 37 = .ok (.iconst 0, 1) := by decide +kernel
theorem dX6_declare_38 : decode cX6_declare 38 = .ok (.ireturn, 1) := by decide +kernel
theorem dX6_declare_39 : decode cX6_declare 39 = .ok (.aload_n 0, 1) := by decide +kernel
theorem dX6_declare_40 : decode cX6_declare 40 = .ok (.getfield 65, 3) := by decide +kernel
theorem dX6_declare_43 : decode cX6_declare 43 = .ok (.iload_n 1, 1) := by decide +kernel
theorem dX6_declare_44 : decode cX6_declare 44 = .ok (.aload_n 0, 1) := by decide +kernel
theorem dX6_declare_45 : decode cX6_declare 45 = .ok (.getfield 142, 3) := by decide +kernel
theorem dX6_declare_48 : decode cX6_declare 48 = .ok (.iastore, 1) := by decide +kernel
theorem dX6_declare_49 : decode cX6_declare 49 = .ok (.aload_n 0, 1) := by decide +kernel
theorem dX6_declare_50 : decode cX6_declare 50 = .ok (.getfield 142, 3) := by decide +kernel
theorem dX6_declare_53 : decode cX6_declare 53 = .ok (.ireturn, 1) := by decide +kernel
theorem dX6_body_0 : decode cX6_body 0 = .ok (.aload_n 0, 1) := by decide +kernel
theorem dX6_body_1 : decode cX6_body 1 = .ok (.iload_n 1, 1) := by decide +kernel
theorem dX6_body_2 : decode cX6_body 2 = .ok (.iconst 1, 1) := by decide +kernel
theorem dX6_body_3 : decode cX6_body 3 = .ok (.bipush 63, 2) := by decide +kernel
theorem dX6_body_5 : decode cX6_body 5 = .ok (.invokestatic 111, 3) := by decide +kernel
theorem dX6_body_8 : decode cX6_body 8 = .ok (.ifCond .ne 7, 3) := by decide +kernel
theorem dX6_body_11 : decode cX6_body 11 = .ok (.iconst 1, 1) := by decide +kernel
theorem dX6_body_12 : decode cX6_body 12 = .ok (.goto 16, 3) := by decide +kernel
theorem dX6_body_15 : decode cX6_body 15 = .ok (.aload_n 0, 1) := by decide +kernel
theorem dX6_body_16 : decode cX6_body 16 = .ok (.getfield 121, 3) := by decide +kernel
theorem dX6_body_19 : decode cX6_body 19 = .ok (.iconst 5, 1) := by decide +kernel
theorem dX6_body_20 : decode cX6_body 20 = .ok (.if_icmp .ne 7, 3) := by decide +kernel
theorem dX6_body_23 : decode cX6_body 23 = .ok (.iconst 2, 1) := by decide +kernel
theorem dX6_body_24 : decode cX6_body 24 = .ok (.goto 4, 3) := by decide +kernel
theorem dX6_body_27 : decode cX6_body 27 = .ok (.iconst 0, 1) := by decide +kernel
theorem dX6_body_28 : decode cX6_body 28 = .ok (.invokevirtual 127, 3) := by decide +kernel
theorem dX6_body_31 : decode cX6_body 31 = .ok (.ifCond .eq 5, 3) := by decide +kernel
theorem dX6_body_34 : decode cX6_body 34 = .ok (.iconst 0, 1) := by decide +kernel
theorem dX6_body_35 : decode cX6_body 35 = .ok (.ireturn, 1) := by decide +kernel
theorem dX6_body_36 : decode cX6_body 36 = .ok (.aload_n 0, 1) := by decide +kernel
theorem dX6_body_37 : decode cX6_body 37 = .ok (.getfield 71, 3) := by decide +kernel
theorem dX6_body_40 : decode cX6_body 40 = .ok (.aload_n 0, 1) := by decide +kernel
theorem dX6_body_41 : decode cX6_body 41 = .ok (.getfield 121, 3) := by decide +kernel
theorem dX6_body_44 : decode cX6_body 44 = .ok (.iload_n 1, 1) := by decide +kernel
theorem dX6_body_45 : decode cX6_body 45 = .ok (.iastore, 1) := by decide +kernel
theorem dX6_body_46 : decode cX6_body 46 = .ok (.aload_n 0, 1) := by decide +kernel
theorem dX6_body_47 : decode cX6_body 47 = .ok (.getfield 74, 3) := by decide +kernel
theorem dX6_body_50 : decode cX6_body 50 = .ok (.aload_n 0, 1) := by decide +kernel
theorem dX6_body_51 : decode cX6_body 51 = .ok (.getfield 121, 3) := by decide +kernel
theorem dX6_body_54 : decode cX6_body 54 = .ok (.iconst (-1), 1) := by decide +kernel
theorem dX6_body_55 : decode cX6_body 55 = .ok (.iastore, 1) := by decide +kernel
theorem dX6_body_56 : decode cX6_body 56 = .ok (.aload_n 0, 1) := by decide +kernel
theorem dX6_body_57 : decode cX6_body 57 = .ok (.dup, 1) := by decide +kernel
theorem dX6_body_58 : decode cX6_body 58 = .ok (.getfield 121, 3) := by decide +kernel
theorem dX6_body_61 : decode cX6_body 61 = .ok (.iconst 1, 1) := by decide +kernel
theorem dX6_body_62 : decode cX6_body 62 = .ok (.iadd, 1) := by decide +kernel
theorem dX6_body_63 : decode cX6_body 63 = .ok (.putfield 121, 3) := by decide +kernel
theorem dX6_body_66 : decode cX6_body 66 = .ok (.aload_n 0, 1) := by decide +kernel
theorem dX6_body_67 : decode cX6_body 67 = .ok (.getfield 121, 3) := by decide +kernel
theorem dX6_body_70 : decode cX6_body 70 = .ok (.iconst 1, 1) := by decide +kernel
theorem dX6_body_71 : decode cX6_body 71 = .ok (.isub, 1) := by decide +kernel
theorem dX6_body_72 : decode cX6_body 72 = .ok (.ireturn, 1) := by decide +kernel
theorem dX6_suspend_0 : decode cX6_suspend 0 = .ok (.aload_n 0, 1) := by decide +kernel
theorem dX6_suspend_1 : decode cX6_suspend 1 = .ok (.aload_n 0, 1) := by decide +kernel
theorem dX6_suspend_2 : decode cX6_suspend 2 = .ok (.iload_n 1, 1) := by decide +kernel
theorem dX6_suspend_3 : decode cX6_suspend 3 = .ok (.invokevirtual 189, 3) := by decide +kernel
theorem dX6_suspend_6 : decode cX6_suspend 6 = .ok (.ifCond .eq 7, 3) := by decide +kernel
theorem dX6_suspend_9 : decode cX6_suspend 9 = .ok (.iconst 0, 1) := by decide +kernel
theorem dX6_suspend_10 : decode cX6_suspend 10 = .ok (.goto 4, 3) := by decide +kernel
theorem dX6_suspend_13 : decode cX6_suspend 13 = .ok (.iconst 1, 1) := by decide +kernel
theorem dX6_suspend_14 : decode cX6_suspend 14 = .ok (.invokevirtual 127, 3) := by decide +kernel
theorem dX6_suspend_17 : decode cX6_suspend 17 = .ok (.ifCond .eq 5, 3) := by decide +kernel
theorem dX6_suspend_20 : decode cX6_suspend 20 = .ok (.iconst 0, 1) := by decide +kernel
theorem dX6_suspend_21 : decode cX6_suspend 21 = .ok (.ireturn, 1) := by decide +kernel
theorem dX6_suspend_22 : decode cX6_suspend 22 = .ok (.aload_n 0, 1) := by decide +kernel
theorem dX6_suspend_23 : decode cX6_suspend 23 = .ok (.getfield 74, 3) := by decide +kernel
theorem dX6_suspend_26 : decode cX6_suspend 26 = .ok (.iload_n 1, 1) := by decide +kernel
theorem dX6_suspend_27 : decode cX6_suspend 27 = .ok (.iaload, 1) := by decide +kernel
theorem dX6_suspend_28 : decode cX6_suspend 28 = .ok (.iconst (-1), 1) := by decide +kernel
theorem dX6_suspend_29 : decode cX6_suspend 29 = .ok (.if_icmp .eq 7, 3) := by decide +kernel
theorem dX6_suspend_32 : decode cX6_suspend 32 = .ok (.iconst 1, 1) := by decide +kernel
theorem dX6_suspend_33 : decode cX6_suspend 33 = .ok (.goto 4, 3) := by decide +kernel
theorem dX6_suspend_36 : decode cX6_suspend 36 = .ok (.iconst 0, 1) := by decide +kernel
theorem dX6_suspend_37 : decode cX6_suspend 37 = .ok (.istore_n 3, 1) := by decide +kernel
theorem dX6_suspend_38 : decode cX6_suspend 38 = .ok (.aload_n 0, 1) := by decide +kernel
theorem dX6_suspend_39 : decode cX6_suspend 39 = .ok (.getfield 74, 3) := by decide +kernel
theorem dX6_suspend_42 : decode cX6_suspend 42 = .ok (.iload_n 1, 1) := by decide +kernel
theorem dX6_suspend_43 : decode cX6_suspend 43 = .ok (.iload_n 2, 1) := by decide +kernel
theorem dX6_suspend_44 : decode cX6_suspend 44 = .ok (.ifCond .ne 7, 3) := by decide +kernel
theorem dX6_suspend_47 : decode cX6_suspend 47 = .ok (.iconst (-1), 1) := by decide +kernel
theorem dX6_suspend_48 : decode cX6_suspend 48 = .ok (.goto 20, 3) := by decide +kernel
theorem dX6_suspend_51 : decode cX6_suspend 51 = .ok (.iload_n 3, 1) := by decide +kernel
theorem dX6_suspend_52 : decode cX6_suspend 52 = .ok (.ifCond .eq 12, 3) := by decide +kernel
theorem dX6_suspend_55 : decode cX6_suspend 55 = .ok (.aload_n 0, 1) := by decide +kernel
theorem dX6_suspend_56 : decode cX6_suspend 56 = .ok (.getfield 74, 3) := by decide +kernel
theorem dX6_suspend_59 : decode cX6_suspend 59 = .ok (.iload_n 1, 1) := by decide +kernel
theorem dX6_suspend_60 : decode cX6_suspend 60 = .ok (.iaload, 1) := by decide +kernel
theorem dX6_suspend_61 : decode cX6_suspend 61 = .ok (.goto 7, 3) := by decide +kernel
theorem dX6_suspend_64 : decode cX6_suspend 64 = .ok (.aload_n 0, 1) := by decide +kernel
theorem dX6_suspend_65 : decode cX6_suspend 65 = .ok (.getfield 142, 3) := by decide +kernel
theorem dX6_suspend_68 : decode cX6_suspend 68 = .ok (.iastore, 1) := by decide +kernel
theorem dX6_suspend_69 : decode cX6_suspend 69 = .ok (.iload_n 3, 1) := by decide +kernel
theorem dX6_suspend_70 : decode cX6_suspend 70 = .ok (.ireturn, 1) := by decide +kernel
theorem dX6_certify_0 : decode cX6_certify 0 = .ok (.aload_n 0, 1) := by decide +kernel
theorem dX6_certify_1 : decode cX6_certify 1 = .ok (.iload_n 1, 1) := by decide +kernel
theorem dX6_certify_2 : decode cX6_certify 2 = .ok (.invokevirtual 189, 3) := by decide +kernel
theorem dX6_certify_5 : decode cX6_certify 5 = .ok (.ifCond .eq 15, 3) := by decide +kernel
theorem dX6_certify_8 : decode cX6_certify 8 = .ok (.aload_n 0, 1) := by decide +kernel
theorem dX6_certify_9 : decode cX6_certify 9 = .ok (.iload_n 2, 1) := by decide +kernel
theorem dX6_certify_10 : decode cX6_certify 10 = .ok (.invokevirtual 145, 3) := by decide +kernel
theorem dX6_certify_13 : decode cX6_certify 13 = .ok (.ifCond .eq 7, 3) := by decide +kernel
theorem dX6_certify_16 : decode cX6_certify 16 = .ok (.iconst 1, 1) := by decide +kernel
theorem dX6_certify_17 : decode cX6_certify 17 = .ok (.goto 4, 3) := by decide +kernel
theorem dX6_certify_20 : decode cX6_certify 20 = .ok (.iconst 0, 1) := by decide +kernel
theorem dX6_certify_21 : decode cX6_certify 21 = .ok (.istore 4, 2) := by decide +kernel
theorem dX6_certify_23 : decode cX6_certify 23 = .ok (.iload_n 3, 1) := by decide +kernel
theorem dX6_certify_24 : decode cX6_certify 24 = .ok (.iconst 1, 1) := by decide +kernel
theorem dX6_certify_25 : decode cX6_certify 25 = .ok (.sipush 1000, 3) := by decide +kernel
theorem dX6_certify_28 : decode cX6_certify 28 = .ok (.invokestatic 111, 3) := by decide +kernel
theorem dX6_certify_31 : decode cX6_certify 31 = .ok (.istore 5, 2) := by decide +kernel
theorem dX6_certify_33 : decode cX6_certify 33 = .ok (.iload 4, 2) := by decide +kernel
theorem dX6_certify_35 : decode cX6_certify 35 = .ok (.ifCond .eq 44, 3) := by decide +kernel
theorem dX6_certify_38 : decode cX6_certify 38 = .ok (.iload 5, 2) := by decide +kernel
theorem dX6_certify_40 : decode cX6_certify 40 = .ok (.ifCond .eq 39, 3) := by decide +kernel
theorem dX6_certify_43 : decode cX6_certify 43 = .ok (.aload_n 0, 1) := by decide +kernel
theorem dX6_certify_44 : decode cX6_certify 44 = .ok (.getfield 74, 3) := by decide +kernel
theorem dX6_certify_47 : decode cX6_certify 47 = .ok (.iload_n 1, 1) := by decide +kernel
theorem dX6_certify_48 : decode cX6_certify 48 = .ok (.iaload, 1) := by decide +kernel
theorem dX6_certify_49 : decode cX6_certify 49 = .ok (.iconst (-1), 1) := by decide +kernel
theorem dX6_certify_50 : decode cX6_certify 50 = .ok (.if_icmp .ne 29, 3) := by decide +kernel
theorem dX6_certify_53 : decode cX6_certify 53 = .ok (.aload_n 0, 1) := by decide +kernel
theorem dX6_certify_54 : decode cX6_certify 54 = .ok (.iload_n 1, 1) := by decide +kernel
theorem dX6_certify_55 : decode cX6_certify 55 = .ok (.iload_n 2, 1) := by decide +kernel
theorem dX6_certify_56 : decode cX6_certify 56 = .ok (.invokevirtual 171, 3) := by decide +kernel
theorem dX6_certify_59 : decode cX6_certify 59 = .ok (.ifCond .eq 20, 3) := by decide +kernel
theorem dX6_certify_62 : decode cX6_certify 62 = .ok (.aload_n 0, 1) := by decide +kernel
theorem dX6_certify_63 : decode cX6_certify 63 = .ok (.iload_n 2, 1) := by decide +kernel
theorem dX6_certify_64 : decode cX6_certify 64 = .ok (.invokevirtual 186, 3) := by decide +kernel
theorem dX6_certify_67 : decode cX6_certify 67 = .ok (.iconst 1, 1) := by decide +kernel
theorem dX6_certify_68 : decode cX6_certify 68 = .ok (.iconst 3, 1) := by decide +kernel
theorem dX6_certify_69 : decode cX6_certify 69 = .ok (.invokestatic 111, 3) := by decide +kernel
theorem dX6_certify_72 : decode cX6_certify 72 = .ok (.ifCond .ne 7, 3) := by decide +kernel
theorem dX6_certify_75 : decode cX6_certify 75 = .ok (.iconst 1, 1) := by decide +kernel
theorem dX6_certify_76 : decode cX6_certify 76 = .ok (.goto 4, 3) := by decide +kernel
theorem dX6_certify_79 : decode cX6_certify 79 = .ok (.iconst 0, 1) := by decide +kernel
theorem dX6_certify_80 : decode cX6_certify 80 = .ok (.istore 6, 2) := by decide +kernel
theorem dX6_certify_82 : decode cX6_certify 82 = .ok (.aload_n 0, 1) := by decide +kernel
theorem dX6_certify_83 : decode cX6_certify 83 = .ok (.iload 4, 2) := by decide +kernel
theorem dX6_certify_85 : decode cX6_certify 85 = .ok (.ifCond .ne 7, 3) := by decide +kernel
theorem dX6_certify_88 : decode cX6_certify 88 = .ok (.iconst 1, 1) := by decide +kernel
theorem dX6_certify_89 : decode cX6_certify 89 = .ok (.goto 22, 3) := by decide +kernel
theorem dX6_certify_92 : decode cX6_certify 92 = .ok (.iload 5, 2) := by decide +kernel
theorem dX6_certify_94 : decode cX6_certify 94 = .ok (.ifCond .ne 7, 3) := by decide +kernel
theorem dX6_certify_97 : decode cX6_certify 97 = .ok (.iconst 2, 1) := by decide +kernel
theorem dX6_certify_98 : decode cX6_certify 98 = .ok (.goto 13, 3) := by decide +kernel
theorem dX6_certify_101 : decode cX6_certify 101 = .ok (.iload 6, 2) := by decide +kernel
theorem dX6_certify_103 : decode cX6_certify 103 = .ok (.ifCond .eq 7, 3) := by decide +kernel
theorem dX6_certify_106 : decode cX6_certify 106 = .ok (.iconst 0, 1) := by decide +kernel
theorem dX6_certify_107 : decode cX6_certify 107 = .ok (.goto 4, 3) := by decide +kernel
theorem dX6_certify_110 : decode cX6_certify 110 = .ok (.iconst 3, 1) := by decide +kernel
theorem dX6_certify_111 : decode cX6_certify 111 = .ok (.invokevirtual 127, 3) := by decide +kernel
theorem dX6_certify_114 : decode cX6_certify 114 = .ok (.ifCond .eq 5, 3) := by decide +kernel
theorem dX6_certify_117 : decode cX6_certify 117 = .ok (.iconst 0, 1) := by decide +kernel
theorem dX6_certify_118 : decode cX6_certify 118 = .ok (.ireturn, 1) := by decide +kernel
theorem dX6_certify_119 : decode cX6_certify 119 = .ok (.aload_n 0, 1) := by decide +kernel
theorem dX6_certify_120 : decode cX6_certify 120 = .ok (.getfield 56, 3) := by decide +kernel
theorem dX6_certify_123 : decode cX6_certify 123 = .ok (.iload_n 2, 1) := by decide +kernel
theorem dX6_certify_124 : decode cX6_certify 124 = .ok (.iload_n 1, 1) := by decide +kernel
theorem dX6_certify_125 : decode cX6_certify 125 = .ok (.iastore, 1) := by decide +kernel
theorem dX6_certify_126 : decode cX6_certify 126 = .ok (.aload_n 0, 1) := by decide +kernel
theorem dX6_certify_127 : decode cX6_certify 127 = .ok (.getfield 59, 3) := by decide +kernel
theorem dX6_certify_130 : decode cX6_certify 130 = .ok (.iload_n 2, 1) := by decide +kernel
theorem dX6_certify_131 : decode cX6_certify 131 = .ok (.aload_n 0, 1) := by decide +kernel
theorem dX6_certify_132 : decode cX6_certify 132 = .ok (.getfield 142, 3) := by decide +kernel
theorem dX6_certify_135 : decode cX6_certify 135 = .ok (.iload_n 3, 1) := by decide +kernel
theorem dX6_certify_136 : decode cX6_certify 136 = .ok (.iadd, 1) := by decide +kernel
theorem dX6_certify_137 : decode cX6_certify 137 = .ok (.iastore, 1) := by decide +kernel
theorem dX6_certify_138 : decode cX6_certify 138 = .ok (.aload_n 0, 1) := by decide +kernel
theorem dX6_certify_139 : decode cX6_certify 139 = .ok (.getfield 59, 3) := by decide +kernel
theorem dX6_certify_142 : decode cX6_certify 142 = .ok (.iload_n 2, 1) := by decide +kernel
theorem dX6_certify_143 : decode cX6_certify 143 = .ok (.iaload, 1) := by decide +kernel
theorem dX6_certify_144 : decode cX6_certify 144 = .ok (.ireturn, 1) := by decide +kernel
theorem dX6_transfer_0 : decode cX6_transfer 0 = .ok (.aload_n 0, 1) := by decide +kernel
theorem dX6_transfer_1 : decode cX6_transfer 1 = .ok (.iload_n 1, 1) := by decide +kernel
theorem dX6_transfer_2 : decode cX6_transfer 2 = .ok (.invokevirtual 145, 3) := by decide +kernel
theorem dX6_transfer_5 : decode cX6_transfer 5 = .ok (.ifCond .eq 15, 3) := by decide +kernel
theorem dX6_transfer_8 : decode cX6_transfer 8 = .ok (.aload_n 0, 1) := by decide +kernel
theorem dX6_transfer_9 : decode cX6_transfer 9 = .ok (.iload_n 2, 1) := by decide +kernel
theorem dX6_transfer_10 : decode cX6_transfer 10 = .ok (.invokevirtual 189, 3) := by decide +kernel
theorem dX6_transfer_13 : decode cX6_transfer 13 = .ok (.ifCond .eq 7, 3) := by decide +kernel
theorem dX6_transfer_16 : decode cX6_transfer 16 = .ok (.iconst 1, 1) := by decide +kernel
theorem dX6_transfer_17 : decode cX6_transfer 17 = .ok (.goto 4, 3) := by decide +kernel
theorem dX6_transfer_20 : decode cX6_transfer 20 = .ok (.iconst 0, 1) := by decide +kernel
theorem dX6_transfer_21 : decode cX6_transfer 21 = .ok (.istore_n 3, 1) := by decide +kernel
theorem dX6_transfer_22 : decode cX6_transfer 22 = .ok (.iload_n 3, 1) := by decide +kernel
theorem dX6_transfer_23 : decode cX6_transfer 23 = .ok (.ifCond .eq 46, 3) := by decide +kernel
theorem dX6_transfer_26 : decode cX6_transfer 26 = .ok (.aload_n 0, 1) := by decide +kernel
theorem dX6_transfer_27 : decode cX6_transfer 27 = .ok (.getfield 56, 3) := by decide +kernel
theorem dX6_transfer_30 : decode cX6_transfer 30 = .ok (.iload_n 1, 1) := by decide +kernel
theorem dX6_transfer_31 : decode cX6_transfer 31 = .ok (.iaload, 1) := by decide +kernel
theorem dX6_transfer_32 : decode cX6_transfer 32 = .ok (.iconst (-1), 1) := by decide +kernel
theorem dX6_transfer_33 : decode cX6_transfer 33 = .ok (.if_icmp .eq 36, 3) := by decide +kernel
theorem dX6_transfer_36 : decode cX6_transfer 36 = .ok (.aload_n 0, 1) := by decide +kernel
theorem dX6_transfer_37 : decode cX6_transfer 37 = .ok (.getfield 56, 3) := by decide +kernel
theorem dX6_transfer_40 : decode cX6_transfer 40 = .ok (.iload_n 1, 1) := by decide +kernel
theorem dX6_transfer_41 : decode cX6_transfer 41 = .ok (.iaload, 1) := by decide +kernel
theorem dX6_transfer_42 : decode cX6_transfer 42 = .ok (.iload_n 2, 1) := by decide +kernel
theorem dX6_transfer_43 : decode cX6_transfer 43 = .ok (.if_icmp .eq 26, 3) := by decide +kernel
theorem dX6_transfer_46 : decode cX6_transfer 46 = .ok (.aload_n 0, 1) := by decide +kernel
theorem dX6_transfer_47 : decode cX6_transfer 47 = .ok (.getfield 74, 3) := by decide +kernel
theorem dX6_transfer_50 : decode cX6_transfer 50 = .ok (.iload_n 2, 1) := by decide +kernel
theorem dX6_transfer_51 : decode cX6_transfer 51 = .ok (.iaload, 1) := by decide +kernel
theorem dX6_transfer_52 : decode cX6_transfer 52 = .ok (.iconst (-1), 1) := by decide +kernel
theorem dX6_transfer_53 : decode cX6_transfer 53 = .ok (.if_icmp .ne 16, 3) := by decide +kernel
theorem dX6_transfer_56 : decode cX6_transfer 56 = .ok (.aload_n 0, 1) := by decide +kernel
theorem dX6_transfer_57 : decode cX6_transfer 57 = .ok (.iload_n 2, 1) := by decide +kernel
theorem dX6_transfer_58 : decode cX6_transfer 58 = .ok (.iload_n 1, 1) := by decide +kernel
theorem dX6_transfer_59 : decode cX6_transfer 59 = .ok (.invokevirtual 171, 3) := by decide +kernel
theorem dX6_transfer_62 : decode cX6_transfer 62 = .ok (.ifCond .eq 7, 3) := by decide +kernel
theorem dX6_transfer_65 : decode cX6_transfer 65 = .ok (.iconst 1, 1) := by decide +kernel
theorem dX6_transfer_66 : decode cX6_transfer 66 = .ok (.goto 4, 3) := by decide +kernel
theorem dX6_transfer_69 : decode cX6_transfer 69 = .ok (.iconst 0, 1) := by decide +kernel
theorem dX6_transfer_70 : decode cX6_transfer 70 = .ok (.istore 4, 2) := by decide +kernel
theorem dX6_transfer_72 : decode cX6_transfer 72 = .ok (.aload_n 0, 1) := by decide +kernel
theorem dX6_transfer_73 : decode cX6_transfer 73 = .ok (.iload_n 3, 1) := by decide +kernel
theorem dX6_transfer_74 : decode cX6_transfer 74 = .ok (.ifCond .ne 7, 3) := by decide +kernel
theorem dX6_transfer_77 : decode cX6_transfer 77 = .ok (.iconst 1, 1) := by decide +kernel
theorem dX6_transfer_78 : decode cX6_transfer 78 = .ok (.goto 13, 3) := by decide +kernel
theorem dX6_transfer_81 : decode cX6_transfer 81 = .ok (.iload 4, 2) := by decide +kernel
theorem dX6_transfer_83 : decode cX6_transfer 83 = .ok (.ifCond .eq 7, 3) := by decide +kernel
theorem dX6_transfer_86 : decode cX6_transfer 86 = .ok (.iconst 0, 1) := by decide +kernel
theorem dX6_transfer_87 : decode cX6_transfer 87 = .ok (.goto 4, 3) := by decide +kernel
theorem dX6_transfer_90 : decode cX6_transfer 90 = .ok (.iconst 2, 1) := by decide +kernel
theorem dX6_transfer_91 : decode cX6_transfer 91 = .ok (.invokevirtual 127, 3) := by decide +kernel
theorem dX6_transfer_94 : decode cX6_transfer 94 = .ok (.ifCond .eq 5, 3) := by decide +kernel
theorem dX6_transfer_97 : decode cX6_transfer 97 = .ok (.iconst 0, 1) := by decide +kernel
theorem dX6_transfer_98 : decode cX6_transfer 98 = .ok (.ireturn, 1) := by decide +kernel
theorem dX6_transfer_99 : decode cX6_transfer 99 = .ok (.aload_n 0, 1) := by decide +kernel
theorem dX6_transfer_100 : decode cX6_transfer 100 = .ok (.getfield 56, 3) := by decide +kernel
theorem dX6_transfer_103 : decode cX6_transfer 103 = .ok (.iload_n 1, 1) := by decide +kernel
theorem dX6_transfer_104 : decode cX6_transfer 104 = .ok (.iaload, 1) := by decide +kernel
theorem dX6_transfer_105 : decode cX6_transfer 105 = .ok (.istore 5, 2) := by decide +kernel
theorem dX6_transfer_107 : decode cX6_transfer 107 = .ok (.aload_n 0, 1) := by decide +kernel
theorem dX6_transfer_108 : decode cX6_transfer 108 = .ok (.getfield 56, 3) := by decide +kernel
theorem dX6_transfer_111 : decode cX6_transfer 111 = .ok (.iload_n 1, 1) := by decide +kernel
theorem dX6_transfer_112 : decode cX6_transfer 112 = .ok (.iload_n 2, 1) := by decide +kernel
theorem dX6_transfer_113 : decode cX6_transfer 113 = .ok (.iastore, 1) := by decide +kernel
theorem dX6_transfer_114 : decode cX6_transfer 114 = .ok (.iload 5, 2) := by decide +kernel
theorem dX6_transfer_116 : decode cX6_transfer 116 = .ok (.ireturn, 1) := by decide +kernel
theorem dX6_visit_0 : decode cX6_visit 0 = .ok (.aload_n 0, 1) := by decide +kernel
theorem dX6_visit_1 : decode cX6_visit 1 = .ok (.aload_n 0, 1) := by decide +kernel
theorem dX6_visit_2 : decode cX6_visit 2 = .ok (.iload_n 1, 1) := by decide +kernel
theorem dX6_visit_3 : decode cX6_visit 3 = .ok (.invokevirtual 145, 3) := by decide +kernel
theorem dX6_visit_6 : decode cX6_visit 6 = .ok (.ifCond .eq 7, 3) := by decide +kernel
theorem dX6_visit_9 : decode cX6_visit 9 = .ok (.iconst 0, 1) := by decide +kernel
theorem dX6_visit_10 : decode cX6_visit 10 = .ok (.goto 4, 3) := by decide +kernel
theorem dX6_visit_13 : decode cX6_visit 13 = .ok (.iconst 1, 1) := by decide +kernel
theorem dX6_visit_14 : decode cX6_visit 14 = .ok (.invokevirtual 127, 3) := by decide +kernel
theorem dX6_visit_17 : decode cX6_visit 17 = .ok (.ifCond .eq 5, 3) := by decide +kernel
theorem dX6_visit_20 : decode cX6_visit 20 = .ok (.iconst 0, 1) := by decide +kernel
theorem dX6_visit_21 : decode cX6_visit 21 = .ok (.ireturn, 1) := by decide +kernel
theorem dX6_visit_22 : decode cX6_visit 22 = .ok (.iload_n 2, 1) := by decide +kernel
theorem dX6_visit_23 : decode cX6_visit 23 = .ok (.ifCond .ne 17, 3) := by decide +kernel
theorem dX6_visit_26 : decode cX6_visit 26 = .ok (.aload_n 0, 1) := by decide +kernel
theorem dX6_visit_27 : decode cX6_visit 27 = .ok (.getfield 56, 3) := by decide +kernel
theorem dX6_visit_30 : decode cX6_visit 30 = .ok (.iload_n 1, 1) := by decide +kernel
theorem dX6_visit_31 : decode cX6_visit 31 = .ok (.iaload, 1) := by decide +kernel
theorem dX6_visit_32 : decode cX6_visit 32 = .ok (.iconst (-1), 1) := by decide +kernel
theorem dX6_visit_33 : decode cX6_visit 33 = .ok (.if_icmp .eq 7, 3) := by decide +kernel
theorem dX6_visit_36 : decode cX6_visit 36 = .ok (.iconst 1, 1) := by decide +kernel
theorem dX6_visit_37 : decode cX6_visit 37 = .ok (.goto 4, 3) := by decide +kernel
theorem dX6_visit_40 : decode cX6_visit 40 = .ok (.iconst 0, 1) := by decide +kernel
theorem dX6_visit_41 : decode cX6_visit 41 = .ok (.istore_n 3, 1) := by decide +kernel
theorem dX6_visit_42 : decode cX6_visit 42 = .ok (.aload_n 0, 1) := by decide +kernel
theorem dX6_visit_43 : decode cX6_visit 43 = .ok (.getfield 62, 3) := by decide +kernel
theorem dX6_visit_46 : decode cX6_visit 46 = .ok (.iload_n 1, 1) := by decide +kernel
theorem dX6_visit_47 : decode cX6_visit 47 = .ok (.iload_n 2, 1) := by decide +kernel
theorem dX6_visit_48 : decode cX6_visit 48 = .ok (.ifCond .eq 10, 3) := by decide +kernel
theorem dX6_visit_51 : decode cX6_visit 51 = .ok (.aload_n 0, 1) := by decide +kernel
theorem dX6_visit_52 : decode cX6_visit 52 = .ok (.getfield 142, 3) := by decide +kernel
theorem dX6_visit_55 : decode cX6_visit 55 = .ok (.goto 9, 3) := by decide +kernel
theorem dX6_visit_58 : decode cX6_visit 58 = .ok (.aload_n 0, 1) := by decide +kernel
theorem dX6_visit_59 : decode cX6_visit 59 = .ok (.getfield 62, 3) := by decide +kernel
theorem dX6_visit_62 : decode cX6_visit 62 = .ok (.iload_n 1, 1) := by decide +kernel
theorem dX6_visit_63 : decode cX6_visit 63 = .ok (.iaload, 1) := by decide +kernel
theorem dX6_visit_64 : decode cX6_visit 64 = .ok (.iastore, 1) := by decide +kernel
theorem dX6_visit_65 : decode cX6_visit 65 = .ok (.aload_n 0, 1) := by decide +kernel
theorem dX6_visit_66 : decode cX6_visit 66 = .ok (.getfield 56, 3) := by decide +kernel
theorem dX6_visit_69 : decode cX6_visit 69 = .ok (.iload_n 1, 1) := by decide +kernel
theorem dX6_visit_70 : decode cX6_visit 70 = .ok (.iload_n 3, 1) := by decide +kernel
theorem dX6_visit_71 : decode cX6_visit 71 = .ok (.ifCond .eq 7, 3) := by decide +kernel
theorem dX6_visit_74 : decode cX6_visit 74 = .ok (.iconst (-1), 1) := by decide +kernel
theorem dX6_visit_75 : decode cX6_visit 75 = .ok (.goto 9, 3) := by decide +kernel
theorem dX6_visit_78 : decode cX6_visit 78 = .ok (.aload_n 0, 1) := by decide +kernel
theorem dX6_visit_79 : decode cX6_visit 79 = .ok (.getfield 56, 3) := by decide +kernel
theorem dX6_visit_82 : decode cX6_visit 82 = .ok (.iload_n 1, 1) := by decide +kernel
theorem dX6_visit_83 : decode cX6_visit 83 = .ok (.iaload, 1) := by decide +kernel
theorem dX6_visit_84 : decode cX6_visit 84 = .ok (.iastore, 1) := by decide +kernel
theorem dX6_visit_85 : decode cX6_visit 85 = .ok (.aload_n 0, 1) := by decide +kernel
theorem dX6_visit_86 : decode cX6_visit 86 = .ok (.getfield 59, 3) := by decide +kernel
theorem dX6_visit_89 : decode cX6_visit 89 = .ok (.iload_n 1, 1) := by decide +kernel
theorem dX6_visit_90 : decode cX6_visit 90 = .ok (.iload_n 3, 1) := by decide +kernel
theorem dX6_visit_91 : decode cX6_visit 91 = .ok (.ifCond .eq 7, 3) := by decide +kernel
theorem dX6_visit_94 : decode cX6_visit 94 = .ok (.iconst (-1), 1) := by decide +kernel
theorem dX6_visit_95 : decode cX6_visit 95 = .ok (.goto 9, 3) := by decide +kernel
theorem dX6_visit_98 : decode cX6_visit 98 = .ok (.aload_n 0, 1) := by decide +kernel
theorem dX6_visit_99 : decode cX6_visit 99 = .ok (.getfield 59, 3) := by decide +kernel
theorem dX6_visit_102 : decode cX6_visit 102 = .ok (.iload_n 1, 1) := by decide +kernel
theorem dX6_visit_103 : decode cX6_visit 103 = .ok (.iaload, 1) := by decide +kernel
theorem dX6_visit_104 : decode cX6_visit 104 = .ok (.iastore, 1) := by decide +kernel
theorem dX6_visit_105 : decode cX6_visit 105 = .ok (.iload_n 3, 1) := by decide +kernel
theorem dX6_visit_106 : decode cX6_visit 106 = .ok (.ireturn, 1) := by decide +kernel
theorem dX6_arrives_0 : decode cX6_arrives 0 = .ok (.aload_n 0, 1) := by decide +kernel
theorem dX6_arrives_1 : decode cX6_arrives 1 = .ok (.getfield 77, 3) := by decide +kernel
theorem dX6_arrives_4 : decode cX6_arrives 4 = .ok (.aload_n 0, 1) := by decide +kernel
theorem dX6_arrives_5 : decode cX6_arrives 5 = .ok (.getfield 124, 3) := by decide +kernel
theorem dX6_arrives_8 : decode cX6_arrives 8 = .ok (.iload_n 1, 1) := by decide +kernel
theorem dX6_arrives_9 : decode cX6_arrives 9 = .ok (.iastore, 1) := by decide +kernel
theorem dX6_arrives_10 : decode cX6_arrives 10 = .ok (.aload_n 0, 1) := by decide +kernel
theorem dX6_arrives_11 : decode cX6_arrives 11 = .ok (.getfield 80, 3) := by decide +kernel
theorem dX6_arrives_14 : decode cX6_arrives 14 = .ok (.aload_n 0, 1) := by decide +kernel
theorem dX6_arrives_15 : decode cX6_arrives 15 = .ok (.getfield 124, 3) := by decide +kernel
theorem dX6_arrives_18 : decode cX6_arrives 18 = .ok (.iload_n 2, 1) := by decide +kernel
theorem dX6_arrives_19 : decode cX6_arrives 19 = .ok (.iastore, 1) := by decide +kernel
theorem dX6_arrives_20 : decode cX6_arrives 20 = .ok (.aload_n 0, 1) := by decide +kernel
theorem dX6_arrives_21 : decode cX6_arrives 21 = .ok (.getfield 83, 3) := by decide +kernel
theorem dX6_arrives_24 : decode cX6_arrives 24 = .ok (.aload_n 0, 1) := by decide +kernel
theorem dX6_arrives_25 : decode cX6_arrives 25 = .ok (.getfield 124, 3) := by decide +kernel
theorem dX6_arrives_28 : decode cX6_arrives 28 = .ok (.aload_n 0, 1) := by decide +kernel
theorem dX6_arrives_29 : decode cX6_arrives 29 = .ok (.getfield 142, 3) := by decide +kernel
theorem dX6_arrives_32 : decode cX6_arrives 32 = .ok (.iastore, 1) := by decide +kernel
theorem dX6_arrives_33 : decode cX6_arrives 33 = .ok (.aload_n 0, 1) := by decide +kernel
theorem dX6_arrives_34 : decode cX6_arrives 34 = .ok (.getfield 86, 3) := by decide +kernel
theorem dX6_arrives_37 : decode cX6_arrives 37 = .ok (.aload_n 0, 1) := by decide +kernel
theorem dX6_arrives_38 : decode cX6_arrives 38 = .ok (.getfield 124, 3) := by decide +kernel
theorem dX6_arrives_41 : decode cX6_arrives 41 = .ok (.aload_n 0, 1) := by decide +kernel
theorem dX6_arrives_42 : decode cX6_arrives 42 = .ok (.getfield 41, 3) := by decide +kernel
theorem dX6_arrives_45 : decode cX6_arrives 45 = .ok (.iload_n 1, 1) := by decide +kernel
theorem dX6_arrives_46 : decode cX6_arrives 46 = .ok (.iaload, 1) := by decide +kernel
theorem dX6_arrives_47 : decode cX6_arrives 47 = .ok (.iastore, 1) := by decide +kernel
theorem dX6_arrives_48 : decode cX6_arrives 48 = .ok (.aload_n 0, 1) := by decide +kernel
theorem dX6_arrives_49 : decode cX6_arrives 49 = .ok (.getfield 89, 3) := by decide +kernel
theorem dX6_arrives_52 : decode cX6_arrives 52 = .ok (.aload_n 0, 1) := by decide +kernel
theorem dX6_arrives_53 : decode cX6_arrives 53 = .ok (.getfield 124, 3) := by decide +kernel
theorem dX6_arrives_56 : decode cX6_arrives 56 = .ok (.iload_n 3, 1) := by decide +kernel
theorem dX6_arrives_57 : decode cX6_arrives 57 = .ok (.iastore, 1) := by decide +kernel
theorem dX6_arrives_58 : decode cX6_arrives 58 = .ok (.aload_n 0, 1) := by decide +kernel
theorem dX6_arrives_59 : decode cX6_arrives 59 = .ok (.getfield 95, 3) := by decide +kernel
theorem dX6_arrives_62 : decode cX6_arrives 62 = .ok (.aload_n 0, 1) := by decide +kernel
theorem dX6_arrives_63 : decode cX6_arrives 63 = .ok (.getfield 124, 3) := by decide +kernel
theorem dX6_arrives_66 : decode cX6_arrives 66 = .ok (.iconst (-1), 1) := by decide +kernel
theorem dX6_arrives_67 : decode cX6_arrives 67 = .ok (.iastore, 1) := by decide +kernel
theorem dX6_arrives_68 : decode cX6_arrives 68 = .ok (.aload_n 0, 1) := by decide +kernel
theorem dX6_arrives_69 : decode cX6_arrives 69 = .ok (.dup, 1) := by decide +kernel
theorem dX6_arrives_70 : decode cX6_arrives 70 = .ok (.getfield 124, 3) := by decide +kernel
theorem dX6_arrives_73 : decode cX6_arrives 73 = .ok (.iconst 1, 1) := by decide +kernel
theorem dX6_arrives_74 : decode cX6_arrives 74 = .ok (.iadd, 1) := by decide +kernel
theorem dX6_arrives_75 : decode cX6_arrives 75 = .ok (.putfield 124, 3) := by decide +kernel
theorem dX6_arrives_78 : decode cX6_arrives 78 = .ok (.aload_n 0, 1) := by decide +kernel
theorem dX6_arrives_79 : decode cX6_arrives 79 = .ok (.getfield 124, 3) := by decide +kernel
theorem dX6_arrives_82 : decode cX6_arrives 82 = .ok (.iconst 1, 1) := by decide +kernel
theorem dX6_arrives_83 : decode cX6_arrives 83 = .ok (.isub, 1) := by decide +kernel
theorem dX6_arrives_84 : decode cX6_arrives 84 = .ok (.ireturn, 1) := by decide +kernel
theorem dX6_place_0 : decode cX6_place 0 = .ok (.aload_n 0, 1) := by decide +kernel
theorem dX6_place_1 : decode cX6_place 1 = .ok (.iload_n 1, 1) := by decide +kernel
theorem dX6_place_2 : decode cX6_place 2 = .ok (.invokevirtual 145, 3) := by decide +kernel
theorem dX6_place_5 : decode cX6_place 5 = .ok (.istore_n 3, 1) := by decide +kernel
theorem dX6_place_6 : decode cX6_place 6 = .ok (.iload_n 2, 1) := by decide +kernel
theorem dX6_place_7 : decode cX6_place 7 = .ok (.iconst 1, 1) := by decide +kernel
theorem dX6_place_8 : decode cX6_place 8 = .ok (.sipush 10000, 3) := by decide +kernel
theorem dX6_place_11 : decode cX6_place 11 = .ok (.invokestatic 111, 3) := by decide +kernel
theorem dX6_place_14 : decode cX6_place 14 = .ok (.istore 4, 2) := by decide +kernel
theorem dX6_place_16 : decode cX6_place 16 = .ok (.aload_n 0, 1) := by decide +kernel
theorem dX6_place_17 : decode cX6_place 17 = .ok (.iload_n 3, 1) := by decide +kernel
theorem dX6_place_18 : decode cX6_place 18 = .ok (.ifCond .ne 7, 3) := by decide +kernel
theorem dX6_place_21 : decode cX6_place 21 = .ok (.iconst 1, 1) := by decide +kernel
theorem dX6_place_22 : decode cX6_place 22 = .ok (.goto 34, 3) := by decide +kernel
theorem dX6_place_25 : decode cX6_place 25 = .ok (.iload 4, 2) := by decide +kernel
theorem dX6_place_27 : decode cX6_place 27 = .ok (.ifCond .ne 7, 3) := by decide +kernel
theorem dX6_place_30 : decode cX6_place 30 = .ok (.iconst 2, 1) := by decide +kernel
theorem dX6_place_31 : decode cX6_place 31 = .ok (.goto 25, 3) := by decide +kernel
theorem dX6_place_34 : decode cX6_place 34 = .ok (.aload_n 0, 1) := by decide +kernel
theorem dX6_place_35 : decode cX6_place 35 = .ok (.iload_n 1, 1) := by decide +kernel
theorem dX6_place_36 : decode cX6_place 36 = .ok (.invokevirtual 186, 3) := by decide +kernel
theorem dX6_place_39 : decode cX6_place 39 = .ok (.ifCond .ne 12, 3) := by decide +kernel
theorem dX6_place_42 : decode cX6_place 42 = .ok (.aload_n 0, 1) := by decide +kernel
theorem dX6_place_43 : decode cX6_place 43 = .ok (.getfield 124, 3) := by decide +kernel
theorem dX6_place_46 : decode cX6_place 46 = .ok (.bipush 40, 2) := by decide +kernel
theorem dX6_place_48 : decode cX6_place 48 = .ok (.if_icmp .ne 7, 3) := by decide +kernel
theorem dX6_place_51 : decode cX6_place 51 = .ok (.iconst 3, 1) := by decide +kernel
theorem dX6_place_52 : decode cX6_place 52 = .ok (.goto 4, 3) := by decide +kernel
theorem dX6_place_55 : decode cX6_place 55 = .ok (.iconst 0, 1) := by decide +kernel
theorem dX6_place_56 : decode cX6_place 56 = .ok (.invokevirtual 127, 3) := by decide +kernel
theorem dX6_place_59 : decode cX6_place 59 = .ok (.ifCond .eq 5, 3) := by decide +kernel
theorem dX6_place_62 : decode cX6_place 62 = .ok (.iconst 0, 1) := by decide +kernel
theorem dX6_place_63 : decode cX6_place 63 = .ok (.ireturn, 1) := by decide +kernel
theorem dX6_place_64 : decode cX6_place 64 = .ok (.aload_n 0, 1) := by decide +kernel
theorem dX6_place_65 : decode cX6_place 65 = .ok (.iload_n 1, 1) := by decide +kernel
theorem dX6_place_66 : decode cX6_place 66 = .ok (.iload_n 2, 1) := by decide +kernel
theorem dX6_place_67 : decode cX6_place 67 = .ok (.iconst 0, 1) := by decide +kernel
theorem dX6_place_68 : decode cX6_place 68 = .ok (.invokevirtual 192, 3) := by decide +kernel
theorem dX6_place_71 : decode cX6_place 71 = .ok (.ireturn, 1) := by decide +kernel
theorem dX6_post_0 : decode cX6_post 0 = .ok (.aload_n 0, 1) := by decide +kernel
theorem dX6_post_1 : decode cX6_post 1 = .ok (.iload_n 1, 1) := by decide +kernel
theorem dX6_post_2 : decode cX6_post 2 = .ok (.invokevirtual 145, 3) := by decide +kernel
theorem dX6_post_5 : decode cX6_post 5 = .ok (.istore_n 3, 1) := by decide +kernel
theorem dX6_post_6 : decode cX6_post 6 = .ok (.aload_n 0, 1) := by decide +kernel
theorem dX6_post_7 : decode cX6_post 7 = .ok (.iload_n 3, 1) := by decide +kernel
theorem dX6_post_8 : decode cX6_post 8 = .ok (.ifCond .ne 7, 3) := by decide +kernel
theorem dX6_post_11 : decode cX6_post 11 = .ok (.iconst 1, 1) := by decide +kernel
theorem dX6_post_12 : decode cX6_post 12 = .ok (.goto 32, 3) := by decide +kernel
theorem dX6_post_15 : decode cX6_post 15 = .ok (.iload_n 2, 1) := by decide +kernel
theorem dX6_post_16 : decode cX6_post 16 = .ok (.iconst 1, 1) := by decide +kernel
theorem dX6_post_17 : decode cX6_post 17 = .ok (.sipush 10000, 3) := by decide +kernel
theorem dX6_post_20 : decode cX6_post 20 = .ok (.invokestatic 111, 3) := by decide +kernel
theorem dX6_post_23 : decode cX6_post 23 = .ok (.ifCond .ne 7, 3) := by decide +kernel
theorem dX6_post_26 : decode cX6_post 26 = .ok (.iconst 2, 1) := by decide +kernel
theorem dX6_post_27 : decode cX6_post 27 = .ok (.goto 17, 3) := by decide +kernel
theorem dX6_post_30 : decode cX6_post 30 = .ok (.aload_n 0, 1) := by decide +kernel
theorem dX6_post_31 : decode cX6_post 31 = .ok (.getfield 124, 3) := by decide +kernel
theorem dX6_post_34 : decode cX6_post 34 = .ok (.bipush 40, 2) := by decide +kernel
theorem dX6_post_36 : decode cX6_post 36 = .ok (.if_icmp .ne 7, 3) := by decide +kernel
theorem dX6_post_39 : decode cX6_post 39 = .ok (.iconst 3, 1) := by decide +kernel
theorem dX6_post_40 : decode cX6_post 40 = .ok (.goto 4, 3) := by decide +kernel
theorem dX6_post_43 : decode cX6_post 43 = .ok (.iconst 0, 1) := by decide +kernel
theorem dX6_post_44 : decode cX6_post 44 = .ok (.invokevirtual 127, 3) := by decide +kernel
theorem dX6_post_47 : decode cX6_post 47 = .ok (.ifCond .eq 5, 3) := by decide +kernel
theorem dX6_post_50 : decode cX6_post 50 = .ok (.iconst 0, 1) := by decide +kernel
theorem dX6_post_51 : decode cX6_post 51 = .ok (.ireturn, 1) := by decide +kernel
theorem dX6_post_52 : decode cX6_post 52 = .ok (.aload_n 0, 1) := by decide +kernel
theorem dX6_post_53 : decode cX6_post 53 = .ok (.iload_n 1, 1) := by decide +kernel
theorem dX6_post_54 : decode cX6_post 54 = .ok (.iload_n 2, 1) := by decide +kernel
theorem dX6_post_55 : decode cX6_post 55 = .ok (.aload_n 0, 1) := by decide +kernel
theorem dX6_post_56 : decode cX6_post 56 = .ok (.iload_n 1, 1) := by decide +kernel
theorem dX6_post_57 : decode cX6_post 57 = .ok (.invokevirtual 186, 3) := by decide +kernel
theorem dX6_post_60 : decode cX6_post 60 = .ok (.invokevirtual 192, 3) := by decide +kernel
theorem dX6_post_63 : decode cX6_post 63 = .ok (.ireturn, 1) := by decide +kernel
theorem dX6_sample_0 : decode cX6_sample 0 = .ok (.iload_n 2, 1) := by decide +kernel
theorem dX6_sample_1 : decode cX6_sample 1 = .ok (.iconst 0, 1) := by decide +kernel
theorem dX6_sample_2 : decode cX6_sample 2 = .ok (.ldc 196, 2) := by decide +kernel
theorem dX6_sample_4 : decode cX6_sample 4 = .ok (.invokestatic 111, 3) := by decide +kernel
theorem dX6_sample_7 : decode cX6_sample 7 = .ok (.ifCond .eq 29, 3) := by decide +kernel
theorem dX6_sample_10 : decode cX6_sample 10 = .ok (.iload_n 3, 1) := by decide +kernel
theorem dX6_sample_11 : decode cX6_sample 11 = .ok (.iconst 0, 1) := by decide +kernel
theorem dX6_sample_12 : decode cX6_sample 12 = .ok (.ldc 196, 2) := by decide +kernel
theorem dX6_sample_14 : decode cX6_sample 14 = .ok (.invokestatic 111, 3) := by decide +kernel
theorem dX6_sample_17 : decode cX6_sample 17 = .ok (.ifCond .eq 19, 3) := by decide +kernel
theorem dX6_sample_20 : decode cX6_sample 20 = .ok (.iload 4, 2) := by decide +kernel
theorem dX6_sample_22 : decode cX6_sample 22 = .ok (.iconst 0, 1) := by decide +kernel
theorem dX6_sample_23 : decode cX6_sample 23 = .ok (.sipush 10000, 3) := by decide +kernel
theorem dX6_sample_26 : decode cX6_sample 26 = .ok (.invokestatic 111, 3) := by decide +kernel
theorem dX6_sample_29 : decode cX6_sample 29 = .ok (.ifCond .eq 7, 3) := by decide +kernel
theorem dX6_sample_32 : decode cX6_sample 32 = .ok (.iconst 1, 1) := by decide +kernel
theorem dX6_sample_33 : decode cX6_sample 33 = .ok (.goto 4, 3) := by decide +kernel
theorem dX6_sample_36 : decode cX6_sample 36 = .ok (.iconst 0, 1) := by decide +kernel
theorem dX6_sample_37 : decode cX6_sample 37 = .ok (.istore 5, 2) := by decide +kernel
theorem dX6_sample_39 : decode cX6_sample 39 = .ok (.aload_n 0, 1) := by decide +kernel
theorem dX6_sample_40 : decode cX6_sample 40 = .ok (.aload_n 0, 1) := by decide +kernel
theorem dX6_sample_41 : decode cX6_sample 41 = .ok (.iload_n 1, 1) := by decide +kernel
theorem dX6_sample_42 : decode cX6_sample 42 = .ok (.invokevirtual 197, 3) := by decide +kernel
theorem dX6_sample_45 : decode cX6_sample 45 = .ok (.ifCond .ne 7, 3) := by decide +kernel
theorem dX6_sample_48 : decode cX6_sample 48 = .ok (.iconst 1, 1) := by decide +kernel
theorem dX6_sample_49 : decode cX6_sample 49 = .ok (.goto 13, 3) := by decide +kernel
theorem dX6_sample_52 : decode cX6_sample 52 = .ok (.iload 5, 2) := by decide +kernel
theorem dX6_sample_54 : decode cX6_sample 54 = .ok (.ifCond .ne 7, 3) := by decide +kernel
theorem dX6_sample_57 : decode cX6_sample 57 = .ok (.iconst 2, 1) := by decide +kernel
theorem dX6_sample_58 : decode cX6_sample 58 = .ok (.goto 4, 3) := by decide +kernel
theorem dX6_sample_61 : decode cX6_sample 61 = .ok (.iconst 0, 1) := by decide +kernel
theorem dX6_sample_62 : decode cX6_sample 62 = .ok (.invokevirtual 127, 3) := by decide +kernel
theorem dX6_sample_65 : decode cX6_sample 65 = .ok (.ifCond .eq 5, 3) := by decide +kernel
theorem dX6_sample_68 : decode cX6_sample 68 = .ok (.iconst 0, 1) := by decide +kernel
theorem dX6_sample_69 : decode cX6_sample 69 = .ok (.ireturn, 1) := by decide +kernel
theorem dX6_sample_70 : decode cX6_sample 70 = .ok (.aload_n 0, 1) := by decide +kernel
theorem dX6_sample_71 : decode cX6_sample 71 = .ok (.getfield 95, 3) := by decide +kernel
theorem dX6_sample_74 : decode cX6_sample 74 = .ok (.iload_n 1, 1) := by decide +kernel
theorem dX6_sample_75 : decode cX6_sample 75 = .ok (.iload_n 2, 1) := by decide +kernel
theorem dX6_sample_76 : decode cX6_sample 76 = .ok (.iload 4, 2) := by decide +kernel
theorem dX6_sample_78 : decode cX6_sample 78 = .ok (.isub, 1) := by decide +kernel
theorem dX6_sample_79 : decode cX6_sample 79 = .ok (.iload_n 3, 1) := by decide +kernel
theorem dX6_sample_80 : decode cX6_sample 80 = .ok (.if_icmp .le 7, 3) := by decide +kernel
theorem dX6_sample_83 : decode cX6_sample 83 = .ok (.iconst 2, 1) := by decide +kernel
theorem dX6_sample_84 : decode cX6_sample 84 = .ok (.goto 16, 3) := by decide +kernel
theorem dX6_sample_87 : decode cX6_sample 87 = .ok (.iload_n 2, 1) := by decide +kernel
theorem dX6_sample_88 : decode cX6_sample 88 = .ok (.iload 4, 2) := by decide +kernel
theorem dX6_sample_90 : decode cX6_sample 90 = .ok (.iadd, 1) := by decide +kernel
theorem dX6_sample_91 : decode cX6_sample 91 = .ok (.iload_n 3, 1) := by decide +kernel
theorem dX6_sample_92 : decode cX6_sample 92 = .ok (.if_icmp .gt 7, 3) := by decide +kernel
theorem dX6_sample_95 : decode cX6_sample 95 = .ok (.iconst 0, 1) := by decide +kernel
theorem dX6_sample_96 : decode cX6_sample 96 = .ok (.goto 4, 3) := by decide +kernel
theorem dX6_sample_99 : decode cX6_sample 99 = .ok (.iconst 1, 1) := by decide +kernel
theorem dX6_sample_100 : decode cX6_sample 100 = .ok (.iastore, 1) := by decide +kernel
theorem dX6_sample_101 : decode cX6_sample 101 = .ok (.aload_n 0, 1) := by decide +kernel
theorem dX6_sample_102 : decode cX6_sample 102 = .ok (.getfield 95, 3) := by decide +kernel
theorem dX6_sample_105 : decode cX6_sample 105 = .ok (.iload_n 1, 1) := by decide +kernel
theorem dX6_sample_106 : decode cX6_sample 106 = .ok (.iaload, 1) := by decide +kernel
theorem dX6_sample_107 : decode cX6_sample 107 = .ok (.ireturn, 1) := by decide +kernel
theorem dX6_levelOf_0 : decode cX6_levelOf 0 = .ok (.aload_n 0, 1) := by decide +kernel
theorem dX6_levelOf_1 : decode cX6_levelOf 1 = .ok (.getfield 101, 3) := by decide +kernel
theorem dX6_levelOf_4 : decode cX6_levelOf 4 = .ok (.iload_n 1, 1) := by decide +kernel
theorem dX6_levelOf_5 : decode cX6_levelOf 5 = .ok (.iaload, 1) := by decide +kernel
theorem dX6_levelOf_6 : decode cX6_levelOf 6 = .ok (.sipush 1000, 3) := by decide +kernel
theorem dX6_levelOf_9 : decode cX6_levelOf 9 = .ok (.imul, 1) := by decide +kernel
theorem dX6_levelOf_10 : decode cX6_levelOf 10 = .ok (.aload_n 0, 1) := by decide +kernel
theorem dX6_levelOf_11 : decode cX6_levelOf 11 = .ok (.getfield 80, 3) := by decide +kernel
theorem dX6_levelOf_14 : decode cX6_levelOf 14 = .ok (.iload_n 1, 1) := by decide +kernel
theorem dX6_levelOf_15 : decode cX6_levelOf 15 = .ok (.iaload, 1) := by decide +kernel
theorem dX6_levelOf_16 : decode cX6_levelOf 16 = .ok (.idiv, 1) := by decide +kernel
theorem dX6_levelOf_17 : decode cX6_levelOf 17 = .ok (.istore_n 2, 1) := by decide +kernel
theorem dX6_levelOf_18 : decode cX6_levelOf 18 = .ok (.aload_n 0, 1) := by decide +kernel
theorem dX6_levelOf_19 : decode cX6_levelOf 19 = .ok (.getfield 98, 3) := by decide +kernel
theorem dX6_levelOf_22 : decode cX6_levelOf 22 = .ok (.iload_n 1, 1) := by decide +kernel
theorem dX6_levelOf_23 : decode cX6_levelOf 23 = .ok (.iaload, 1) := by decide +kernel
theorem dX6_levelOf_24 : decode cX6_levelOf 24 = .ok (.iload_n 2, 1) := by decide +kernel
theorem dX6_levelOf_25 : decode cX6_levelOf 25 = .ok (.bipush 50, 2) := by decide +kernel
theorem dX6_levelOf_27 : decode cX6_levelOf 27 = .ok (.if_icmp .lt 7, 3) := by decide +kernel
theorem dX6_levelOf_30 : decode cX6_levelOf 30 = .ok (.iconst 2, 1) := by decide +kernel
theorem dX6_levelOf_31 : decode cX6_levelOf 31 = .ok (.goto 14, 3) := by decide +kernel
theorem dX6_levelOf_34 : decode cX6_levelOf 34 = .ok (.iload_n 2, 1) := by decide +kernel
theorem dX6_levelOf_35 : decode cX6_levelOf 35 = .ok (.bipush 10, 2) := by decide +kernel
theorem dX6_levelOf_37 : decode cX6_levelOf 37 = .ok (.if_icmp .lt 7, 3) := by decide +kernel
theorem dX6_levelOf_40 : decode cX6_levelOf 40 = .ok (.iconst 1, 1) := by decide +kernel
theorem dX6_levelOf_41 : decode cX6_levelOf 41 = .ok (.goto 4, 3) := by decide +kernel
theorem dX6_levelOf_44 : decode cX6_levelOf 44 = .ok (.iconst 0, 1) := by decide +kernel
theorem dX6_levelOf_45 : decode cX6_levelOf 45 = .ok (.iadd, 1) := by decide +kernel
theorem dX6_levelOf_46 : decode cX6_levelOf 46 = .ok (.aload_n 0, 1) := by decide +kernel
theorem dX6_levelOf_47 : decode cX6_levelOf 47 = .ok (.getfield 95, 3) := by decide +kernel
theorem dX6_levelOf_50 : decode cX6_levelOf 50 = .ok (.iload_n 1, 1) := by decide +kernel
theorem dX6_levelOf_51 : decode cX6_levelOf 51 = .ok (.iaload, 1) := by decide +kernel
theorem dX6_levelOf_52 : decode cX6_levelOf 52 = .ok (.iconst 2, 1) := by decide +kernel
theorem dX6_levelOf_53 : decode cX6_levelOf 53 = .ok (.if_icmp .ne 7, 3) := by decide +kernel
theorem dX6_levelOf_56 : decode cX6_levelOf 56 = .ok (.iconst 1, 1) := by decide +kernel
theorem dX6_levelOf_57 : decode cX6_levelOf 57 = .ok (.goto 4, 3) := by decide +kernel
theorem dX6_levelOf_60 : decode cX6_levelOf 60 = .ok (.iconst 0, 1) := by decide +kernel
theorem dX6_levelOf_61 : decode cX6_levelOf 61 = .ok (.iadd, 1) := by decide +kernel
theorem dX6_levelOf_62 : decode cX6_levelOf 62 = .ok (.ireturn, 1) := by decide +kernel
theorem dX6_event_0 : decode cX6_event 0 = .ok (.aload_n 0, 1) := by decide +kernel
theorem dX6_event_1 : decode cX6_event 1 = .ok (.aload_n 0, 1) := by decide +kernel
theorem dX6_event_2 : decode cX6_event 2 = .ok (.iload_n 1, 1) := by decide +kernel
theorem dX6_event_3 : decode cX6_event 3 = .ok (.invokevirtual 197, 3) := by decide +kernel
theorem dX6_event_6 : decode cX6_event 6 = .ok (.ifCond .ne 7, 3) := by decide +kernel
theorem dX6_event_9 : decode cX6_event 9 = .ok (.iconst 1, 1) := by decide +kernel
theorem dX6_event_10 : decode cX6_event 10 = .ok (.goto 28, 3) := by decide +kernel
theorem dX6_event_13 : decode cX6_event 13 = .ok (.iload_n 2, 1) := by decide +kernel
theorem dX6_event_14 : decode cX6_event 14 = .ok (.iconst 0, 1) := by decide +kernel
theorem dX6_event_15 : decode cX6_event 15 = .ok (.iconst 3, 1) := by decide +kernel
theorem dX6_event_16 : decode cX6_event 16 = .ok (.invokestatic 111, 3) := by decide +kernel
theorem dX6_event_19 : decode cX6_event 19 = .ok (.ifCond .eq 14, 3) := by decide +kernel
theorem dX6_event_22 : decode cX6_event 22 = .ok (.iload_n 3, 1) := by decide +kernel
theorem dX6_event_23 : decode cX6_event 23 = .ok (.iconst 1, 1) := by decide +kernel
theorem dX6_event_24 : decode cX6_event 24 = .ok (.sipush 1000, 3) := by decide +kernel
theorem dX6_event_27 : decode cX6_event 27 = .ok (.invokestatic 111, 3) := by decide +kernel
theorem dX6_event_30 : decode cX6_event 30 = .ok (.ifCond .ne 7, 3) := by decide +kernel
theorem dX6_event_33 : decode cX6_event 33 = .ok (.iconst 2, 1) := by decide +kernel
theorem dX6_event_34 : decode cX6_event 34 = .ok (.goto 4, 3) := by decide +kernel
theorem dX6_event_37 : decode cX6_event 37 = .ok (.iconst 0, 1) := by decide +kernel
theorem dX6_event_38 : decode cX6_event 38 = .ok (.invokevirtual 127, 3) := by decide +kernel
theorem dX6_event_41 : decode cX6_event 41 = .ok (.ifCond .eq 5, 3) := by decide +kernel
theorem dX6_event_44 : decode cX6_event 44 = .ok (.iconst 0, 1) := by decide +kernel
theorem dX6_event_45 : decode cX6_event 45 = .ok (.ireturn, 1) := by decide +kernel
theorem dX6_event_46 : decode cX6_event 46 = .ok (.aload_n 0, 1) := by decide +kernel
theorem dX6_event_47 : decode cX6_event 47 = .ok (.getfield 98, 3) := by decide +kernel
theorem dX6_event_50 : decode cX6_event 50 = .ok (.iload_n 1, 1) := by decide +kernel
theorem dX6_event_51 : decode cX6_event 51 = .ok (.iload_n 2, 1) := by decide +kernel
theorem dX6_event_52 : decode cX6_event 52 = .ok (.aload_n 0, 1) := by decide +kernel
theorem dX6_event_53 : decode cX6_event 53 = .ok (.getfield 98, 3) := by decide +kernel
theorem dX6_event_56 : decode cX6_event 56 = .ok (.iload_n 1, 1) := by decide +kernel
theorem dX6_event_57 : decode cX6_event 57 = .ok (.iaload, 1) := by decide +kernel
theorem dX6_event_58 : decode cX6_event 58 = .ok (.if_icmp .le 7, 3) := by decide +kernel
theorem dX6_event_61 : decode cX6_event 61 = .ok (.iload_n 2, 1) := by decide +kernel
theorem dX6_event_62 : decode cX6_event 62 = .ok (.goto 9, 3) := by decide +kernel
theorem dX6_event_65 : decode cX6_event 65 = .ok (.aload_n 0, 1) := by decide +kernel
theorem dX6_event_66 : decode cX6_event 66 = .ok (.getfield 98, 3) := by decide +kernel
theorem dX6_event_69 : decode cX6_event 69 = .ok (.iload_n 1, 1) := by decide +kernel
theorem dX6_event_70 : decode cX6_event 70 = .ok (.iaload, 1) := by decide +kernel
theorem dX6_event_71 : decode cX6_event 71 = .ok (.iastore, 1) := by decide +kernel
theorem dX6_event_72 : decode cX6_event 72 = .ok (.aload_n 0, 1) := by decide +kernel
theorem dX6_event_73 : decode cX6_event 73 = .ok (.getfield 101, 3) := by decide +kernel
theorem dX6_event_76 : decode cX6_event 76 = .ok (.iload_n 1, 1) := by decide +kernel
theorem dX6_event_77 : decode cX6_event 77 = .ok (.dup2, 1) := by decide +kernel
theorem dX6_event_78 : decode cX6_event 78 = .ok (.iaload, 1) := by decide +kernel
theorem dX6_event_79 : decode cX6_event 79 = .ok (.iload_n 3, 1) := by decide +kernel
theorem dX6_event_80 : decode cX6_event 80 = .ok (.iadd, 1) := by decide +kernel
theorem dX6_event_81 : decode cX6_event 81 = .ok (.iastore, 1) := by decide +kernel
theorem dX6_event_82 : decode cX6_event 82 = .ok (.aload_n 0, 1) := by decide +kernel
theorem dX6_event_83 : decode cX6_event 83 = .ok (.iload_n 1, 1) := by decide +kernel
theorem dX6_event_84 : decode cX6_event 84 = .ok (.invokevirtual 200, 3) := by decide +kernel
theorem dX6_event_87 : decode cX6_event 87 = .ok (.ireturn, 1) := by decide +kernel
theorem dX6_recall_0 : decode cX6_recall 0 = .ok (.aload_n 0, 1) := by decide +kernel
theorem dX6_recall_1 : decode cX6_recall 1 = .ok (.iload_n 1, 1) := by decide +kernel
theorem dX6_recall_2 : decode cX6_recall 2 = .ok (.invokevirtual 145, 3) := by decide +kernel
theorem dX6_recall_5 : decode cX6_recall 5 = .ok (.ifCond .eq 23, 3) := by decide +kernel
theorem dX6_recall_8 : decode cX6_recall 8 = .ok (.aload_n 0, 1) := by decide +kernel
theorem dX6_recall_9 : decode cX6_recall 9 = .ok (.iload_n 2, 1) := by decide +kernel
theorem dX6_recall_10 : decode cX6_recall 10 = .ok (.invokevirtual 197, 3) := by decide +kernel
theorem dX6_recall_13 : decode cX6_recall 13 = .ok (.ifCond .eq 15, 3) := by decide +kernel
theorem dX6_recall_16 : decode cX6_recall 16 = .ok (.aload_n 0, 1) := by decide +kernel
theorem dX6_recall_17 : decode cX6_recall 17 = .ok (.iload_n 3, 1) := by decide +kernel
theorem dX6_recall_18 : decode cX6_recall 18 = .ok (.invokevirtual 197, 3) := by decide +kernel
theorem dX6_recall_21 : decode cX6_recall 21 = .ok (.ifCond .eq 7, 3) := by decide +kernel
theorem dX6_recall_24 : decode cX6_recall 24 = .ok (.iconst 1, 1) := by decide +kernel
theorem dX6_recall_25 : decode cX6_recall 25 = .ok (.goto 4, 3) := by decide +kernel
theorem dX6_recall_28 : decode cX6_recall 28 = .ok (.iconst 0, 1) := by decide +kernel
theorem dX6_recall_29 : decode cX6_recall 29 = .ok (.istore 4, 2) := by decide +kernel
theorem dX6_recall_31 : decode cX6_recall 31 = .ok (.aload_n 0, 1) := by decide +kernel
theorem dX6_recall_32 : decode cX6_recall 32 = .ok (.iload 4, 2) := by decide +kernel
theorem dX6_recall_34 : decode cX6_recall 34 = .ok (.ifCond .ne 7, 3) := by decide +kernel
theorem dX6_recall_37 : decode cX6_recall 37 = .ok (.iconst 1, 1) := by decide +kernel
theorem dX6_recall_38 : decode cX6_recall 38 = .ok (.goto 13, 3) := by decide +kernel
theorem dX6_recall_41 : decode cX6_recall 41 = .ok (.iload_n 3, 1) := by decide +kernel
theorem dX6_recall_42 : decode cX6_recall 42 = .ok (.iload_n 2, 1) := by decide +kernel
theorem dX6_recall_43 : decode cX6_recall 43 = .ok (.if_icmp .ge 7, 3) := by decide +kernel
theorem dX6_recall_46 : decode cX6_recall 46 = .ok (.iconst 2, 1) := by decide +kernel
theorem dX6_recall_47 : decode cX6_recall 47 = .ok (.goto 4, 3) := by decide +kernel
theorem dX6_recall_50 : decode cX6_recall 50 = .ok (.iconst 0, 1) := by decide +kernel
theorem dX6_recall_51 : decode cX6_recall 51 = .ok (.invokevirtual 127, 3) := by decide +kernel
theorem dX6_recall_54 : decode cX6_recall 54 = .ok (.ifCond .eq 5, 3) := by decide +kernel
theorem dX6_recall_57 : decode cX6_recall 57 = .ok (.iconst 0, 1) := by decide +kernel
theorem dX6_recall_58 : decode cX6_recall 58 = .ok (.ireturn, 1) := by decide +kernel
theorem dX6_recall_59 : decode cX6_recall 59 = .ok (.iconst 0, 1) := by decide +kernel
theorem dX6_recall_60 : decode cX6_recall 60 = .ok (.istore 5, 2) := by decide +kernel
theorem dX6_recall_62 : decode cX6_recall 62 = .ok (.iload_n 2, 1) := by decide +kernel
theorem dX6_recall_63 : decode cX6_recall 63 = .ok (.istore 6, 2) := by decide +kernel
theorem dX6_recall_65 : decode cX6_recall 65 = .ok (.iload 6, 2) := by decide +kernel
theorem dX6_recall_67 : decode cX6_recall 67 = .ok (.iload_n 3, 1) := by decide +kernel
theorem dX6_recall_68 : decode cX6_recall 68 = .ok (.if_icmp .gt 81, 3) := by decide +kernel
theorem dX6_recall_71 : decode cX6_recall 71 = .ok (.aload_n 0, 1) := by decide +kernel
theorem dX6_recall_72 : decode cX6_recall 72 = .ok (.getfield 77, 3) := by decide +kernel
theorem dX6_recall_75 : decode cX6_recall 75 = .ok (.iload 6, 2) := by decide +kernel
theorem dX6_recall_77 : decode cX6_recall 77 = .ok (.iaload, 1) := by decide +kernel
theorem dX6_recall_78 : decode cX6_recall 78 = .ok (.iload_n 1, 1) := by decide +kernel
theorem dX6_recall_79 : decode cX6_recall 79 = .ok (.if_icmp .ne 17, 3) := by decide +kernel
theorem dX6_recall_82 : decode cX6_recall 82 = .ok (.aload_n 0, 1) := by decide +kernel
theorem dX6_recall_83 : decode cX6_recall 83 = .ok (.getfield 92, 3) := by decide +kernel
theorem dX6_recall_86 : decode cX6_recall 86 = .ok (.iload 6, 2) := by decide +kernel
theorem dX6_recall_88 : decode cX6_recall 88 = .ok (.iaload, 1) := by decide +kernel
theorem dX6_recall_89 : decode cX6_recall 89 = .ok (.ifCond .ne 7, 3) := by decide +kernel
theorem dX6_recall_92 : decode cX6_recall 92 = .ok (.iconst 1, 1) := by decide +kernel
theorem dX6_recall_93 : decode cX6_recall 93 = .ok (.goto 4, 3) := by decide +kernel
theorem dX6_recall_96 : decode cX6_recall 96 = .ok (.iconst 0, 1) := by decide +kernel
theorem dX6_recall_97 : decode cX6_recall 97 = .ok (.istore 7, 2) := by decide +kernel
theorem dX6_recall_99 : decode cX6_recall 99 = .ok (.iload 5, 2) := by decide +kernel
theorem dX6_recall_101 : decode cX6_recall 101 = .ok (.iload 7, 2) := by decide +kernel
theorem dX6_recall_103 : decode cX6_recall 103 = .ok (.ifCond .eq 13, 3) := by decide +kernel
theorem dX6_recall_106 : decode cX6_recall 106 = .ok (.aload_n 0, 1) := by decide +kernel
theorem dX6_recall_107 : decode cX6_recall 107 = .ok (.getfield 80, 3) := by decide +kernel
theorem dX6_recall_110 : decode cX6_recall 110 = .ok (.iload 6, 2) := by decide +kernel
theorem dX6_recall_112 : decode cX6_recall 112 = .ok (.iaload, 1) := by decide +kernel
theorem dX6_recall_113 : decode cX6_recall 113 = .ok (.goto 4, 3) := by decide +kernel
theorem dX6_recall_116 : decode cX6_recall 116 = .ok (.iconst 0, 1) := by decide +kernel
theorem dX6_recall_117 : decode cX6_recall 117 = .ok (.iadd, 1) := by decide +kernel
theorem dX6_recall_118 : decode cX6_recall 118 = .ok (.istore 5, 2) := by decide +kernel
theorem dX6_recall_120 : decode cX6_recall 120 = .ok (.aload_n 0, 1) := by decide +kernel
theorem dX6_recall_121 : decode cX6_recall 121 = .ok (.getfield 92, 3) := by decide +kernel
theorem dX6_recall_124 : decode cX6_recall 124 = .ok (.iload 6, 2) := by decide +kernel
theorem dX6_recall_126 : decode cX6_recall 126 = .ok (.iload 7, 2) := by decide +kernel
theorem dX6_recall_128 : decode cX6_recall 128 = .ok (.ifCond .eq 7, 3) := by decide +kernel
theorem dX6_recall_131 : decode cX6_recall 131 = .ok (.iconst 1, 1) := by decide +kernel
theorem dX6_recall_132 : decode cX6_recall 132 = .ok (.goto 10, 3) := by decide +kernel
theorem dX6_recall_135 : decode cX6_recall 135 = .ok (.aload_n 0, 1) := by decide +kernel
theorem dX6_recall_136 : decode cX6_recall 136 = .ok (.getfield 92, 3) := by decide +kernel
theorem dX6_recall_139 : decode cX6_recall 139 = .ok (.iload 6, 2) := by decide +kernel
theorem dX6_recall_141 : decode cX6_recall 141 = .ok (.iaload, 1) := by decide +kernel
theorem dX6_recall_142 : decode cX6_recall 142 = .ok (.iastore, 1) := by decide +kernel
theorem dX6_recall_143 : decode cX6_recall 143 = .ok (.iinc 6 1, 3) := by decide +kernel
theorem dX6_recall_146 : decode cX6_recall 146 = .ok (.goto (-81), 3) := by decide +kernel
theorem dX6_recall_149 : decode cX6_recall 149 = .ok (.iload 5, 2) := by decide +kernel
theorem dX6_recall_151 : decode cX6_recall 151 = .ok (.ireturn, 1) := by decide +kernel
theorem dX6_ban_0 : decode cX6_ban 0 = .ok (.iload_n 1, 1) := by decide +kernel
theorem dX6_ban_1 : decode cX6_ban 1 = .ok (.iconst 0, 1) := by decide +kernel
theorem dX6_ban_2 : decode cX6_ban 2 = .ok (.iconst 4, 1) := by decide +kernel
theorem dX6_ban_3 : decode cX6_ban 3 = .ok (.invokestatic 111, 3) := by decide +kernel
theorem dX6_ban_6 : decode cX6_ban 6 = .ok (.ifCond .eq 15, 3) := by decide +kernel
theorem dX6_ban_9 : decode cX6_ban 9 = .ok (.aload_n 0, 1) := by decide +kernel
theorem dX6_ban_10 : decode cX6_ban 10 = .ok (.iload_n 2, 1) := by decide +kernel
theorem dX6_ban_11 : decode cX6_ban 11 = .ok (.invokevirtual 145, 3) := by decide +kernel
theorem dX6_ban_14 : decode cX6_ban 14 = .ok (.ifCond .eq 7, 3) := by decide +kernel
theorem dX6_ban_17 : decode cX6_ban 17 = .ok (.iconst 1, 1) := by decide +kernel
theorem dX6_ban_18 : decode cX6_ban 18 = .ok (.goto 4, 3) := by decide +kernel
theorem dX6_ban_21 : decode cX6_ban 21 = .ok (.iconst 0, 1) := by decide +kernel
theorem dX6_ban_22 : decode cX6_ban 22 = .ok (.istore 4, 2) := by decide +kernel
theorem dX6_ban_24 : decode cX6_ban 24 = .ok (.aload_n 0, 1) := by decide +kernel
theorem dX6_ban_25 : decode cX6_ban 25 = .ok (.iload 4, 2) := by decide +kernel
theorem dX6_ban_27 : decode cX6_ban 27 = .ok (.ifCond .eq 7, 3) := by decide +kernel
theorem dX6_ban_30 : decode cX6_ban 30 = .ok (.iconst 0, 1) := by decide +kernel
theorem dX6_ban_31 : decode cX6_ban 31 = .ok (.goto 4, 3) := by decide +kernel
theorem dX6_ban_34 : decode cX6_ban 34 = .ok (.iconst 1, 1) := by decide +kernel
theorem dX6_ban_35 : decode cX6_ban 35 = .ok (.invokevirtual 127, 3) := by decide +kernel
theorem dX6_ban_38 : decode cX6_ban 38 = .ok (.ifCond .eq 5, 3) := by decide +kernel
theorem dX6_ban_41 : decode cX6_ban 41 = .ok (.iconst 0, 1) := by decide +kernel
theorem dX6_ban_42 : decode cX6_ban 42 = .ok (.ireturn, 1) := by decide +kernel
theorem dX6_ban_43 : decode cX6_ban 43 = .ok (.aload_n 0, 1) := by decide +kernel
theorem dX6_ban_44 : decode cX6_ban 44 = .ok (.getfield 68, 3) := by decide +kernel
theorem dX6_ban_47 : decode cX6_ban 47 = .ok (.iload_n 2, 1) := by decide +kernel
theorem dX6_ban_48 : decode cX6_ban 48 = .ok (.iload_n 3, 1) := by decide +kernel
theorem dX6_ban_49 : decode cX6_ban 49 = .ok (.ifCond .eq 16, 3) := by decide +kernel
theorem dX6_ban_52 : decode cX6_ban 52 = .ok (.aload_n 0, 1) := by decide +kernel
theorem dX6_ban_53 : decode cX6_ban 53 = .ok (.getfield 68, 3) := by decide +kernel
theorem dX6_ban_56 : decode cX6_ban 56 = .ok (.iload_n 2, 1) := by decide +kernel
theorem dX6_ban_57 : decode cX6_ban 57 = .ok (.iaload, 1) := by decide +kernel
theorem dX6_ban_58 : decode cX6_ban 58 = .ok (.iconst 1, 1) := by decide +kernel
theorem dX6_ban_59 : decode cX6_ban 59 = .ok (.iload_n 1, 1) := by decide +kernel
theorem dX6_ban_60 : decode cX6_ban 60 = .ok (.ishl, 1) := by decide +kernel
theorem dX6_ban_61 : decode cX6_ban 61 = .ok (.ior, 1) := by decide +kernel
theorem dX6_ban_62 : decode cX6_ban 62 = .ok (.goto 15, 3) := by decide +kernel
theorem dX6_ban_65 : decode cX6_ban 65 = .ok (.aload_n 0, 1) := by decide +kernel
theorem dX6_ban_66 : decode cX6_ban 66 = .ok (.getfield 68, 3) := by decide +kernel
theorem dX6_ban_69 : decode cX6_ban 69 = .ok (.iload_n 2, 1) := by decide +kernel
theorem dX6_ban_70 : decode cX6_ban 70 = .ok (.iaload, 1) := by decide +kernel
theorem dX6_ban_71 : decode cX6_ban 71 = .ok (.iconst 1, 1) := by decide +kernel
theorem dX6_ban_72 : decode cX6_ban 72 = .ok (.iload_n 1, 1) := by decide +kernel
theorem dX6_ban_73 : decode cX6_ban 73 = .ok (.ishl, 1) := by decide +kernel
theorem dX6_ban_74 : decode cX6_ban 74 = .ok (.iconst (-1), 1) := by decide +kernel
theorem dX6_ban_75 : decode cX6_ban 75 = .ok (.ixor, 1) := by decide +kernel
theorem dX6_ban_76 : decode cX6_ban 76 = .ok (.iand, 1) := by decide +kernel
theorem dX6_ban_77 : decode cX6_ban 77 = .ok (.iastore, 1) := by decide +kernel
theorem dX6_ban_78 : decode cX6_ban 78 = .ok (.aload_n 0, 1) := by decide +kernel
theorem dX6_ban_79 : decode cX6_ban 79 = .ok (.getfield 68, 3) := by decide +kernel
theorem dX6_ban_82 : decode cX6_ban 82 = .ok (.iload_n 2, 1) := by decide +kernel
theorem dX6_ban_83 : decode cX6_ban 83 = .ok (.iaload, 1) := by decide +kernel
theorem dX6_ban_84 : decode cX6_ban 84 = .ok (.invokestatic 174, 3) := by decide +kernel
theorem dX6_ban_87 : decode cX6_ban 87 = .ok (.ireturn, 1) := by decide +kernel
theorem dX6_pass_0 : decode cX6_pass 0 = .ok (.aload_n 0, 1) := by decide +kernel
theorem dX6_pass_1 : decode cX6_pass 1 = .ok (.iload_n 1, 1) := by decide +kernel
theorem dX6_pass_2 : decode cX6_pass 2 = .ok (.iconst 1, 1) := by decide +kernel
theorem dX6_pass_3 : decode cX6_pass 3 = .ok (.sipush 500, 3) := by decide +kernel
theorem dX6_pass_6 : decode cX6_pass 6 = .ok (.invokestatic 111, 3) := by decide +kernel
theorem dX6_pass_9 : decode cX6_pass 9 = .ok (.ifCond .ne 7, 3) := by decide +kernel
theorem dX6_pass_12 : decode cX6_pass 12 = .ok (.iconst 1, 1) := by decide +kernel
theorem dX6_pass_13 : decode cX6_pass 13 = .ok (.goto 20, 3) := by decide +kernel
theorem dX6_pass_16 : decode cX6_pass 16 = .ok (.aload_n 0, 1) := by decide +kernel
theorem dX6_pass_17 : decode cX6_pass 17 = .ok (.getfield 142, 3) := by decide +kernel
theorem dX6_pass_20 : decode cX6_pass 20 = .ok (.iload_n 1, 1) := by decide +kernel
theorem dX6_pass_21 : decode cX6_pass 21 = .ok (.iadd, 1) := by decide +kernel
theorem dX6_pass_22 : decode cX6_pass 22 = .ok (.sipush 5000, 3) := by decide +kernel
theorem dX6_pass_25 : decode cX6_pass 25 = .ok (.if_icmp .le 7, 3) := by decide +kernel
theorem dX6_pass_28 : decode cX6_pass 28 = .ok (.iconst 2, 1) := by decide +kernel
theorem dX6_pass_29 : decode cX6_pass 29 = .ok (.goto 4, 3) := by decide +kernel
theorem dX6_pass_32 : decode cX6_pass 32 = .ok (.iconst 0, 1) := by decide +kernel
theorem dX6_pass_33 : decode cX6_pass 33 = .ok (.invokevirtual 127, 3) := by decide +kernel
theorem dX6_pass_36 : decode cX6_pass 36 = .ok (.ifCond .eq 5, 3) := by decide +kernel
theorem dX6_pass_39 : decode cX6_pass 39 = .ok (.iconst 0, 1) := by decide +kernel
theorem dX6_pass_40 : decode cX6_pass 40 = .ok (.ireturn, 1) := by decide +kernel
theorem dX6_pass_41 : decode cX6_pass 41 = .ok (.aload_n 0, 1) := by decide +kernel
theorem dX6_pass_42 : decode cX6_pass 42 = .ok (.dup, 1) := by decide +kernel
theorem dX6_pass_43 : decode cX6_pass 43 = .ok (.getfield 142, 3) := by decide +kernel
theorem dX6_pass_46 : decode cX6_pass 46 = .ok (.iload_n 1, 1) := by decide +kernel
theorem dX6_pass_47 : decode cX6_pass 47 = .ok (.iadd, 1) := by decide +kernel
theorem dX6_pass_48 : decode cX6_pass 48 = .ok (.putfield 142, 3) := by decide +kernel
theorem dX6_pass_51 : decode cX6_pass 51 = .ok (.aload_n 0, 1) := by decide +kernel
theorem dX6_pass_52 : decode cX6_pass 52 = .ok (.getfield 142, 3) := by decide +kernel
theorem dX6_pass_55 : decode cX6_pass 55 = .ok (.ireturn, 1) := by decide +kernel
theorem dX6_day_0 : decode cX6_day 0 = .ok (.aload_n 0, 1) := by decide +kernel
theorem dX6_day_1 : decode cX6_day 1 = .ok (.iconst 0, 1) := by decide +kernel
theorem dX6_day_2 : decode cX6_day 2 = .ok (.putfield 104, 3) := by decide +kernel
theorem dX6_day_5 : decode cX6_day 5 = .ok (.aload_n 0, 1) := by decide +kernel
theorem dX6_day_6 : decode cX6_day 6 = .ok (.getfield 142, 3) := by decide +kernel
theorem dX6_day_9 : decode cX6_day 9 = .ok (.ireturn, 1) := by decide +kernel
theorem dX6_applies_0 : decode cX6_applies 0 = .ok (.aload_n 0, 1) := by decide +kernel
theorem dX6_applies_1 : decode cX6_applies 1 = .ok (.aload_n 0, 1) := by decide +kernel
theorem dX6_applies_2 : decode cX6_applies 2 = .ok (.iload_n 1, 1) := by decide +kernel
theorem dX6_applies_3 : decode cX6_applies 3 = .ok (.invokevirtual 131, 3) := by decide +kernel
theorem dX6_applies_6 : decode cX6_applies 6 = .ok (.ifCond .eq 15, 3) := by decide +kernel
theorem dX6_applies_9 : decode cX6_applies 9 = .ok (.aload_n 0, 1) := by decide +kernel
theorem dX6_applies_10 : decode cX6_applies 10 = .ok (.iload_n 2, 1) := by decide +kernel
theorem dX6_applies_11 : decode cX6_applies 11 = .ok (.invokevirtual 145, 3) := by decide +kernel
theorem dX6_applies_14 : decode cX6_applies 14 = .ok (.ifCond .eq 7, 3) := by decide +kernel
theorem dX6_applies_17 : decode cX6_applies 17 = .ok (.iconst 0, 1) := by decide +kernel
theorem dX6_applies_18 : decode cX6_applies 18 = .ok (.goto 4, 3) := by decide +kernel
theorem dX6_applies_21 : decode cX6_applies 21 = .ok (.iconst 1, 1) := by decide +kernel
theorem dX6_applies_22 : decode cX6_applies 22 = .ok (.invokevirtual 127, 3) := by decide +kernel
theorem dX6_applies_25 : decode cX6_applies 25 = .ok (.ifCond .ne 16, 3) := by decide +kernel
theorem dX6_applies_28 : decode cX6_applies 28 = .ok (.aload_n 0, 1) := by decide +kernel
theorem dX6_applies_29 : decode cX6_applies 29 = .ok (.iload_n 1, 1) := by decide +kernel
theorem dX6_applies_30 : decode cX6_applies 30 = .ok (.iload_n 2, 1) := by decide +kernel
theorem dX6_applies_31 : decode cX6_applies 31 = .ok (.invokevirtual 155, 3) := by decide +kernel
theorem dX6_applies_34 : decode cX6_applies 34 = .ok (.ifCond .eq 7, 3) := by decide +kernel
theorem dX6_applies_37 : decode cX6_applies 37 = .ok (.iconst 1, 1) := by decide +kernel
theorem dX6_applies_38 : decode cX6_applies 38 = .ok (.goto 4, 3) := by decide +kernel
theorem dX6_applies_41 : decode cX6_applies 41 = .ok (.iconst 0, 1) := by decide +kernel
theorem dX6_applies_42 : decode cX6_applies 42 = .ok (.ireturn, 1) := by decide +kernel
theorem dX6_demands_0 : decode cX6_demands 0 = .ok (.aload_n 0, 1) := by decide +kernel
theorem dX6_demands_1 : decode cX6_demands 1 = .ok (.aload_n 0, 1) := by decide +kernel
theorem dX6_demands_2 : decode cX6_demands 2 = .ok (.iload_n 1, 1) := by decide +kernel
theorem dX6_demands_3 : decode cX6_demands 3 = .ok (.invokevirtual 145, 3) := by decide +kernel
theorem dX6_demands_6 : decode cX6_demands 6 = .ok (.ifCond .eq 7, 3) := by decide +kernel
theorem dX6_demands_9 : decode cX6_demands 9 = .ok (.iconst 0, 1) := by decide +kernel
theorem dX6_demands_10 : decode cX6_demands 10 = .ok (.goto 4, 3) := by decide +kernel
theorem dX6_demands_13 : decode cX6_demands 13 = .ok (.iconst 1, 1) := by decide +kernel
theorem dX6_demands_14 : decode cX6_demands 14 = .ok (.invokevirtual 127, 3) := by decide +kernel
theorem dX6_demands_17 : decode cX6_demands 17 = .ok (.ifCond .eq 5, 3) := by decide +kernel
theorem dX6_demands_20 : decode cX6_demands 20 = .ok (.iconst 0, 1) := by decide +kernel
theorem dX6_demands_21 : decode cX6_demands 21 = .ok (.ireturn, 1) := by decide +kernel
theorem dX6_demands_22 : decode cX6_demands 22 = .ok (.iload_n 2, 1) := by decide +kernel
theorem dX6_demands_23 : decode cX6_demands 23 = .ok (.ifCond .eq 11, 3) := by decide +kernel
theorem dX6_demands_26 : decode cX6_demands 26 = .ok (.aload_n 0, 1) := by decide +kernel
theorem dX6_demands_27 : decode cX6_demands 27 = .ok (.iload_n 1, 1) := by decide +kernel
theorem dX6_demands_28 : decode cX6_demands 28 = .ok (.invokevirtual 177, 3) := by decide +kernel
theorem dX6_demands_31 : decode cX6_demands 31 = .ok (.goto 8, 3) := by decide +kernel
theorem dX6_demands_34 : decode cX6_demands 34 = .ok (.aload_n 0, 1) := by decide +kernel
theorem dX6_demands_35 : decode cX6_demands 35 = .ok (.iload_n 1, 1) := by decide +kernel
theorem dX6_demands_36 : decode cX6_demands 36 = .ok (.invokevirtual 158, 3) := by decide +kernel
theorem dX6_demands_39 : decode cX6_demands 39 = .ok (.ireturn, 1) := by decide +kernel
theorem dX6_way_0 : decode cX6_way 0 = .ok (.aload_n 0, 1) := by decide +kernel
theorem dX6_way_1 : decode cX6_way 1 = .ok (.aload_n 0, 1) := by decide +kernel
theorem dX6_way_2 : decode cX6_way 2 = .ok (.iload_n 1, 1) := by decide +kernel
theorem dX6_way_3 : decode cX6_way 3 = .ok (.invokevirtual 145, 3) := by decide +kernel
theorem dX6_way_6 : decode cX6_way 6 = .ok (.ifCond .eq 7, 3) := by decide +kernel
theorem dX6_way_9 : decode cX6_way 9 = .ok (.iconst 0, 1) := by decide +kernel
theorem dX6_way_10 : decode cX6_way 10 = .ok (.goto 4, 3) := by decide +kernel
theorem dX6_way_13 : decode cX6_way 13 = .ok (.iconst 1, 1) := by decide +kernel
theorem dX6_way_14 : decode cX6_way 14 = .ok (.invokevirtual 127, 3) := by decide +kernel
theorem dX6_way_17 : decode cX6_way 17 = .ok (.ifCond .eq 7, 3) := by decide +kernel
theorem dX6_way_20 : decode cX6_way 20 = .ok (.iconst 0, 1) := by decide +kernel
theorem dX6_way_21 : decode cX6_way 21 = .ok (.goto 8, 3) := by decide +kernel
theorem dX6_way_24 : decode cX6_way 24 = .ok (.aload_n 0, 1) := by decide +kernel
theorem dX6_way_25 : decode cX6_way 25 = .ok (.iload_n 1, 1) := by decide +kernel
theorem dX6_way_26 : decode cX6_way 26 = .ok (.invokevirtual 180, 3) := by decide +kernel
theorem dX6_way_29 : decode cX6_way 29 = .ok (.ireturn, 1) := by decide +kernel
theorem dX6_wanting_0 : decode cX6_wanting 0 = .ok (.aload_n 0, 1) := by decide +kernel
theorem dX6_wanting_1 : decode cX6_wanting 1 = .ok (.aload_n 0, 1) := by decide +kernel
theorem dX6_wanting_2 : decode cX6_wanting 2 = .ok (.iload_n 1, 1) := by decide +kernel
theorem dX6_wanting_3 : decode cX6_wanting 3 = .ok (.invokevirtual 145, 3) := by decide +kernel
theorem dX6_wanting_6 : decode cX6_wanting 6 = .ok (.ifCond .eq 7, 3) := by decide +kernel
theorem dX6_wanting_9 : decode cX6_wanting 9 = .ok (.iconst 0, 1) := by decide +kernel
theorem dX6_wanting_10 : decode cX6_wanting 10 = .ok (.goto 4, 3) := by decide +kernel
theorem dX6_wanting_13 : decode cX6_wanting 13 = .ok (.iconst 1, 1) := by decide +kernel
theorem dX6_wanting_14 : decode cX6_wanting 14 = .ok (.invokevirtual 127, 3) := by decide +kernel
theorem dX6_wanting_17 : decode cX6_wanting 17 = .ok (.ifCond .eq 7, 3) := by decide +kernel
theorem dX6_wanting_20 : decode cX6_wanting 20 = .ok (.iconst 0, 1) := by decide +kernel
theorem dX6_wanting_21 : decode cX6_wanting 21 = .ok (.goto 8, 3) := by decide +kernel
theorem dX6_wanting_24 : decode cX6_wanting 24 = .ok (.aload_n 0, 1) := by decide +kernel
theorem dX6_wanting_25 : decode cX6_wanting 25 = .ok (.iload_n 1, 1) := by decide +kernel
theorem dX6_wanting_26 : decode cX6_wanting 26 = .ok (.invokevirtual 186, 3) := by decide +kernel
theorem dX6_wanting_29 : decode cX6_wanting 29 = .ok (.ireturn, 1) := by decide +kernel
theorem dX6_onMarket_0 : decode cX6_onMarket 0 = .ok (.iconst 0, 1) := by decide +kernel
theorem dX6_onMarket_1 : decode cX6_onMarket 1 = .ok (.istore_n 2, 1) := by decide +kernel
theorem dX6_onMarket_2 : decode cX6_onMarket 2 = .ok (.iconst 0, 1) := by decide +kernel
theorem dX6_onMarket_3 : decode cX6_onMarket 3 = .ok (.istore_n 3, 1) := by decide +kernel
theorem dX6_onMarket_4 : decode cX6_onMarket 4 = .ok (.iload_n 3, 1) := by decide +kernel
theorem dX6_onMarket_5 : decode cX6_onMarket 5 = .ok (.aload_n 0, 1) := by decide +kernel
theorem dX6_onMarket_6 : decode cX6_onMarket 6 = .ok (.getfield 124, 3) := by decide +kernel
theorem dX6_onMarket_9 : decode cX6_onMarket 9 = .ok (.if_icmp .ge 41, 3) := by decide +kernel
theorem dX6_onMarket_12 : decode cX6_onMarket 12 = .ok (.iload_n 2, 1) := by decide +kernel
theorem dX6_onMarket_13 : decode cX6_onMarket 13 = .ok (.aload_n 0, 1) := by decide +kernel
theorem dX6_onMarket_14 : decode cX6_onMarket 14 = .ok (.getfield 77, 3) := by decide +kernel
theorem dX6_onMarket_17 : decode cX6_onMarket 17 = .ok (.iload_n 3, 1) := by decide +kernel
theorem dX6_onMarket_18 : decode cX6_onMarket 18 = .ok (.iaload, 1) := by decide +kernel
theorem dX6_onMarket_19 : decode cX6_onMarket 19 = .ok (.iload_n 1, 1) := by decide +kernel
theorem dX6_onMarket_20 : decode cX6_onMarket 20 = .ok (.if_icmp .ne 21, 3) := by decide +kernel
theorem dX6_onMarket_23 : decode cX6_onMarket 23 = .ok (.aload_n 0, 1) := by decide +kernel
theorem dX6_onMarket_24 : decode cX6_onMarket 24 = .ok (.getfield 92, 3) := by decide +kernel
theorem dX6_onMarket_27 : decode cX6_onMarket 27 = .ok (.iload_n 3, 1) := by decide +kernel
theorem dX6_onMarket_28 : decode cX6_onMarket 28 = .ok (.iaload, 1) := by decide +kernel
theorem dX6_onMarket_29 : decode cX6_onMarket 29 = .ok (.ifCond .ne 12, 3) := by decide +kernel
theorem dX6_onMarket_32 : decode cX6_onMarket 32 = .ok (.aload_n 0, 1) := by decide +kernel
theorem dX6_onMarket_33 : decode cX6_onMarket 33 = .ok (.getfield 80, 3) := by decide +kernel
theorem dX6_onMarket_36 : decode cX6_onMarket 36 = .ok (.iload_n 3, 1) := by decide +kernel
theorem dX6_onMarket_37 : decode cX6_onMarket 37 = .ok (.iaload, 1) := by decide +kernel
theorem dX6_onMarket_38 : decode cX6_onMarket 38 = .ok (.goto 4, 3) := by decide +kernel
theorem dX6_onMarket_41 : decode cX6_onMarket 41 = .ok (.iconst 0, 1) := by decide +kernel
theorem dX6_onMarket_42 : decode cX6_onMarket 42 = .ok (.iadd, 1) := by decide +kernel
theorem dX6_onMarket_43 : decode cX6_onMarket 43 = .ok (.istore_n 2, 1) := by decide +kernel
theorem dX6_onMarket_44 : decode cX6_onMarket 44 = .ok (.iinc 3 1, 3) := by decide +kernel
theorem dX6_onMarket_47 : decode cX6_onMarket 47 = .ok (.goto (-43), 3) := by decide +kernel
theorem dX6_onMarket_50 : decode cX6_onMarket 50 = .ok (.iload_n 2, 1) := by decide +kernel
theorem dX6_onMarket_51 : decode cX6_onMarket 51 = .ok (.ireturn, 1) := by decide +kernel
theorem dX6_productOf_0 : decode cX6_productOf 0 = .ok (.aload_n 0, 1) := by decide +kernel
theorem dX6_productOf_1 : decode cX6_productOf 1 = .ok (.aload_n 0, 1) := by decide +kernel
theorem dX6_productOf_2 : decode cX6_productOf 2 = .ok (.iload_n 1, 1) := by decide +kernel
theorem dX6_productOf_3 : decode cX6_productOf 3 = .ok (.invokevirtual 145, 3) := by decide +kernel
theorem dX6_productOf_6 : decode cX6_productOf 6 = .ok (.ifCond .ne 7, 3) := by decide +kernel
theorem dX6_productOf_9 : decode cX6_productOf 9 = .ok (.iconst 1, 1) := by decide +kernel
theorem dX6_productOf_10 : decode cX6_productOf 10 = .ok (.goto 18, 3) := by decide +kernel
theorem dX6_productOf_13 : decode cX6_productOf 13 = .ok (.iload_n 2, 1) := by decide +kernel
theorem dX6_productOf_14 : decode cX6_productOf 14 = .ok (.iconst 0, 1) := by decide +kernel
theorem dX6_productOf_15 : decode cX6_productOf 15 = .ok (.bipush 6, 2) := by decide +kernel
theorem dX6_productOf_17 : decode cX6_productOf 17 = .ok (.invokestatic 111, 3) := by decide +kernel
theorem dX6_productOf_20 : decode cX6_productOf 20 = .ok (.ifCond .ne 7, 3) := by decide +kernel
theorem dX6_productOf_23 : decode cX6_productOf 23 = .ok (.iconst 2, 1) := by decide +kernel
theorem dX6_productOf_24 : decode cX6_productOf 24 = .ok (.goto 4, 3) := by decide +kernel
theorem dX6_productOf_27 : decode cX6_productOf 27 = .ok (.iconst 0, 1) := by decide +kernel
theorem dX6_productOf_28 : decode cX6_productOf 28 = .ok (.invokevirtual 127, 3) := by decide +kernel
theorem dX6_productOf_31 : decode cX6_productOf 31 = .ok (.ifCond .eq 5, 3) := by decide +kernel
theorem dX6_productOf_34 : decode cX6_productOf 34 = .ok (.iconst 0, 1) := by decide +kernel
theorem dX6_productOf_35 : decode cX6_productOf 35 = .ok (.ireturn, 1) := by decide +kernel
theorem dX6_productOf_36 : decode cX6_productOf 36 = .ok (.iload_n 2, 1) := by decide +kernel
theorem dX6_productOf_37 : decode cX6_productOf 37 = .ok (.tableswitch 81 0 5 #[39, 46, 53, 60, 67, 74], 39) := by decide +kernel
theorem dX6_productOf_76 : decode cX6_productOf 76 = .ok (.aload_n 0, 1) := by decide +kernel
theorem dX6_productOf_77 : decode cX6_productOf 77 = .ok (.getfield 38, 3) := by decide +kernel
theorem dX6_productOf_80 : decode cX6_productOf 80 = .ok (.iload_n 1, 1) := by decide +kernel
theorem dX6_productOf_81 : decode cX6_productOf 81 = .ok (.iaload, 1) := by decide +kernel
theorem dX6_productOf_82 : decode cX6_productOf 82 = .ok (.ireturn, 1) := by decide +kernel
theorem dX6_productOf_83 : decode cX6_productOf 83 = .ok (.aload_n 0, 1) := by decide +kernel
theorem dX6_productOf_84 : decode cX6_productOf 84 = .ok (.getfield 41, 3) := by decide +kernel
theorem dX6_productOf_87 : decode cX6_productOf 87 = .ok (.iload_n 1, 1) := by decide +kernel
theorem dX6_productOf_88 : decode cX6_productOf 88 = .ok (.iaload, 1) := by decide +kernel
theorem dX6_productOf_89 : decode cX6_productOf 89 = .ok (.ireturn, 1) := by decide +kernel
theorem dX6_productOf_90 : decode cX6_productOf 90 = .ok (.aload_n 0, 1) := by decide +kernel
theorem dX6_productOf_91 : decode cX6_productOf 91 = .ok (.getfield 56, 3) := by decide +kernel
theorem dX6_productOf_94 : decode cX6_productOf 94 = .ok (.iload_n 1, 1) := by decide +kernel
theorem dX6_productOf_95 : decode cX6_productOf 95 = .ok (.iaload, 1) := by decide +kernel
theorem dX6_productOf_96 : decode cX6_productOf 96 = .ok (.ireturn, 1) := by decide +kernel
theorem dX6_productOf_97 : decode cX6_productOf 97 = .ok (.aload_n 0, 1) := by decide +kernel
theorem dX6_productOf_98 : decode cX6_productOf 98 = .ok (.getfield 59, 3) := by decide +kernel
theorem dX6_productOf_101 : decode cX6_productOf 101 = .ok (.iload_n 1, 1) := by decide +kernel
theorem dX6_productOf_102 : decode cX6_productOf 102 = .ok (.iaload, 1) := by decide +kernel
theorem dX6_productOf_103 : decode cX6_productOf 103 = .ok (.ireturn, 1) := by decide +kernel
theorem dX6_productOf_104 : decode cX6_productOf 104 = .ok (.aload_n 0, 1) := by decide +kernel
theorem dX6_productOf_105 : decode cX6_productOf 105 = .ok (.getfield 62, 3) := by decide +kernel
theorem dX6_productOf_108 : decode cX6_productOf 108 = .ok (.iload_n 1, 1) := by decide +kernel
theorem dX6_productOf_109 : decode cX6_productOf 109 = .ok (.iaload, 1) := by decide +kernel
theorem dX6_productOf_110 : decode cX6_productOf 110 = .ok (.ireturn, 1) := by decide +kernel
theorem dX6_productOf_111 : decode cX6_productOf 111 = .ok (.aload_n 0, 1) := by decide +kernel
theorem dX6_productOf_112 : decode cX6_productOf 112 = .ok (.getfield 65, 3) := by decide +kernel
theorem dX6_productOf_115 : decode cX6_productOf 115 = .ok (.iload_n 1, 1) := by decide +kernel
theorem dX6_productOf_116 : decode cX6_productOf 116 = .ok (.iaload, 1) := by decide +kernel
theorem dX6_productOf_117 : decode cX6_productOf 117 = .ok (.ireturn, 1) := by decide +kernel
theorem dX6_productOf_118 : decode cX6_productOf 118 = .ok (.aload_n 0, 1) := by decide +kernel
theorem dX6_productOf_119 : decode cX6_productOf 119 = .ok (.iload_n 1, 1) := by decide +kernel
theorem dX6_productOf_120 : decode cX6_productOf 120 = .ok (.invokevirtual 203, 3) := by decide +kernel
theorem dX6_productOf_123 : decode cX6_productOf 123 = .ok (.ireturn, 1) := by decide +kernel
theorem dX6_riskOf_0 : decode cX6_riskOf 0 = .ok (.aload_n 0, 1) := by decide +kernel
theorem dX6_riskOf_1 : decode cX6_riskOf 1 = .ok (.aload_n 0, 1) := by decide +kernel
theorem dX6_riskOf_2 : decode cX6_riskOf 2 = .ok (.iload_n 1, 1) := by decide +kernel
theorem dX6_riskOf_3 : decode cX6_riskOf 3 = .ok (.invokevirtual 145, 3) := by decide +kernel
theorem dX6_riskOf_6 : decode cX6_riskOf 6 = .ok (.ifCond .eq 17, 3) := by decide +kernel
theorem dX6_riskOf_9 : decode cX6_riskOf 9 = .ok (.iload_n 2, 1) := by decide +kernel
theorem dX6_riskOf_10 : decode cX6_riskOf 10 = .ok (.iconst 0, 1) := by decide +kernel
theorem dX6_riskOf_11 : decode cX6_riskOf 11 = .ok (.bipush 7, 2) := by decide +kernel
theorem dX6_riskOf_13 : decode cX6_riskOf 13 = .ok (.invokestatic 111, 3) := by decide +kernel
theorem dX6_riskOf_16 : decode cX6_riskOf 16 = .ok (.ifCond .eq 7, 3) := by decide +kernel
theorem dX6_riskOf_19 : decode cX6_riskOf 19 = .ok (.iconst 0, 1) := by decide +kernel
theorem dX6_riskOf_20 : decode cX6_riskOf 20 = .ok (.goto 4, 3) := by decide +kernel
theorem dX6_riskOf_23 : decode cX6_riskOf 23 = .ok (.iconst 1, 1) := by decide +kernel
theorem dX6_riskOf_24 : decode cX6_riskOf 24 = .ok (.invokevirtual 127, 3) := by decide +kernel
theorem dX6_riskOf_27 : decode cX6_riskOf 27 = .ok (.ifCond .eq 5, 3) := by decide +kernel
theorem dX6_riskOf_30 : decode cX6_riskOf 30 = .ok (.iconst 0, 1) := by decide +kernel
theorem dX6_riskOf_31 : decode cX6_riskOf 31 = .ok (.ireturn, 1) := by decide +kernel
theorem dX6_riskOf_32 : decode cX6_riskOf 32 = .ok (.iload_n 3, 1) := by decide +kernel
theorem dX6_riskOf_33 : decode cX6_riskOf 33 = .ok (.ifCond .eq 17, 3) := by decide +kernel
theorem dX6_riskOf_36 : decode cX6_riskOf 36 = .ok (.aload_n 0, 1) := by decide +kernel
theorem dX6_riskOf_37 : decode cX6_riskOf 37 = .ok (.getfield 47, 3) := by decide +kernel
theorem dX6_riskOf_40 : decode cX6_riskOf 40 = .ok (.bipush 8, 2) := by decide +kernel
theorem dX6_riskOf_42 : decode cX6_riskOf 42 = .ok (.iload_n 1, 1) := by decide +kernel
theorem dX6_riskOf_43 : decode cX6_riskOf 43 = .ok (.imul, 1) := by decide +kernel
theorem dX6_riskOf_44 : decode cX6_riskOf 44 = .ok (.iload_n 2, 1) := by decide +kernel
theorem dX6_riskOf_45 : decode cX6_riskOf 45 = .ok (.iadd, 1) := by decide +kernel
theorem dX6_riskOf_46 : decode cX6_riskOf 46 = .ok (.iaload, 1) := by decide +kernel
theorem dX6_riskOf_47 : decode cX6_riskOf 47 = .ok (.goto 14, 3) := by decide +kernel
theorem dX6_riskOf_50 : decode cX6_riskOf 50 = .ok (.aload_n 0, 1) := by decide +kernel
theorem dX6_riskOf_51 : decode cX6_riskOf 51 = .ok (.getfield 44, 3) := by decide +kernel
theorem dX6_riskOf_54 : decode cX6_riskOf 54 = .ok (.bipush 8, 2) := by decide +kernel
theorem dX6_riskOf_56 : decode cX6_riskOf 56 = .ok (.iload_n 1, 1) := by decide +kernel
theorem dX6_riskOf_57 : decode cX6_riskOf 57 = .ok (.imul, 1) := by decide +kernel
theorem dX6_riskOf_58 : decode cX6_riskOf 58 = .ok (.iload_n 2, 1) := by decide +kernel
theorem dX6_riskOf_59 : decode cX6_riskOf 59 = .ok (.iadd, 1) := by decide +kernel
theorem dX6_riskOf_60 : decode cX6_riskOf 60 = .ok (.iaload, 1) := by decide +kernel
theorem dX6_riskOf_61 : decode cX6_riskOf 61 = .ok (.ireturn, 1) := by decide +kernel
theorem dX6_batchOf_0 : decode cX6_batchOf 0 = .ok (.aload_n 0, 1) := by decide +kernel
theorem dX6_batchOf_1 : decode cX6_batchOf 1 = .ok (.aload_n 0, 1) := by decide +kernel
theorem dX6_batchOf_2 : decode cX6_batchOf 2 = .ok (.iload_n 1, 1) := by decide +kernel
theorem dX6_batchOf_3 : decode cX6_batchOf 3 = .ok (.invokevirtual 197, 3) := by decide +kernel
theorem dX6_batchOf_6 : decode cX6_batchOf 6 = .ok (.ifCond .ne 7, 3) := by decide +kernel
theorem dX6_batchOf_9 : decode cX6_batchOf 9 = .ok (.iconst 1, 1) := by decide +kernel
theorem dX6_batchOf_10 : decode cX6_batchOf 10 = .ok (.goto 18, 3) := by decide +kernel
theorem dX6_batchOf_13 : decode cX6_batchOf 13 = .ok (.iload_n 2, 1) := by decide +kernel
theorem dX6_batchOf_14 : decode cX6_batchOf 14 = .ok (.iconst 0, 1) := by decide +kernel
theorem dX6_batchOf_15 : decode cX6_batchOf 15 = .ok (.bipush 8, 2) := by decide +kernel
theorem dX6_batchOf_17 : decode cX6_batchOf 17 = .ok (.invokestatic 111, 3) := by decide +kernel
theorem dX6_batchOf_20 : decode cX6_batchOf 20 = .ok (.ifCond .ne 7, 3) := by decide +kernel
theorem dX6_batchOf_23 : decode cX6_batchOf 23 = .ok (.iconst 2, 1) := by decide +kernel
theorem dX6_batchOf_24 : decode cX6_batchOf 24 = .ok (.goto 4, 3) := by decide +kernel
theorem dX6_batchOf_27 : decode cX6_batchOf 27 = .ok (.iconst 0, 1) := by decide +kernel
theorem dX6_batchOf_28 : decode cX6_batchOf 28 = .ok (.invokevirtual 127, 3) := by decide +kernel
theorem dX6_batchOf_31 : decode cX6_batchOf 31 = .ok (.ifCond .eq 5, 3) := by decide +kernel
theorem dX6_batchOf_34 : decode cX6_batchOf 34 = .ok (.iconst 0, 1) := by decide +kernel
theorem dX6_batchOf_35 : decode cX6_batchOf 35 = .ok (.ireturn, 1) := by decide +kernel
theorem dX6_batchOf_36 : decode cX6_batchOf 36 = .ok (.iload_n 2, 1) := by decide +kernel
theorem dX6_batchOf_37 : decode cX6_batchOf 37 = .ok (.tableswitch 102 0 7 #[47, 54, 61, 68, 75, 82, 89, 96], 47) := by decide +kernel
theorem dX6_batchOf_84 : decode cX6_batchOf 84 = .ok (.aload_n 0, 1) := by decide +kernel
theorem dX6_batchOf_85 : decode cX6_batchOf 85 = .ok (.getfield 77, 3) := by decide +kernel
theorem dX6_batchOf_88 : decode cX6_batchOf 88 = .ok (.iload_n 1, 1) := by decide +kernel
theorem dX6_batchOf_89 : decode cX6_batchOf 89 = .ok (.iaload, 1) := by decide +kernel
theorem dX6_batchOf_90 : decode cX6_batchOf 90 = .ok (.ireturn, 1) := by decide +kernel
theorem dX6_batchOf_91 : decode cX6_batchOf 91 = .ok (.aload_n 0, 1) := by decide +kernel
theorem dX6_batchOf_92 : decode cX6_batchOf 92 = .ok (.getfield 80, 3) := by decide +kernel
theorem dX6_batchOf_95 : decode cX6_batchOf 95 = .ok (.iload_n 1, 1) := by decide +kernel
theorem dX6_batchOf_96 : decode cX6_batchOf 96 = .ok (.iaload, 1) := by decide +kernel
theorem dX6_batchOf_97 : decode cX6_batchOf 97 = .ok (.ireturn, 1) := by decide +kernel
theorem dX6_batchOf_98 : decode cX6_batchOf 98 = .ok (.aload_n 0, 1) := by decide +kernel
theorem dX6_batchOf_99 : decode cX6_batchOf 99 = .ok (.getfield 83, 3) := by decide +kernel
theorem dX6_batchOf_102 : decode cX6_batchOf 102 = .ok (.iload_n 1, 1) := by decide +kernel
theorem dX6_batchOf_103 : decode cX6_batchOf 103 = .ok (.iaload, 1) := by decide +kernel
theorem dX6_batchOf_104 : decode cX6_batchOf 104 = .ok (.ireturn, 1) := by decide +kernel
theorem dX6_batchOf_105 : decode cX6_batchOf 105 = .ok (.aload_n 0, 1) := by decide +kernel
theorem dX6_batchOf_106 : decode cX6_batchOf 106 = .ok (.getfield 86, 3) := by decide +kernel
theorem dX6_batchOf_109 : decode cX6_batchOf 109 = .ok (.iload_n 1, 1) := by decide +kernel
theorem dX6_batchOf_110 : decode cX6_batchOf 110 = .ok (.iaload, 1) := by decide +kernel
theorem dX6_batchOf_111 : decode cX6_batchOf 111 = .ok (.ireturn, 1) := by decide +kernel
theorem dX6_batchOf_112 : decode cX6_batchOf 112 = .ok (.aload_n 0, 1) := by decide +kernel
theorem dX6_batchOf_113 : decode cX6_batchOf 113 = .ok (.getfield 89, 3) := by decide +kernel
theorem dX6_batchOf_116 : decode cX6_batchOf 116 = .ok (.iload_n 1, 1) := by decide +kernel
theorem dX6_batchOf_117 : decode cX6_batchOf 117 = .ok (.iaload, 1) := by decide +kernel
theorem dX6_batchOf_118 : decode cX6_batchOf 118 = .ok (.ireturn, 1) := by decide +kernel
theorem dX6_batchOf_119 : decode cX6_batchOf 119 = .ok (.aload_n 0, 1) := by decide +kernel
theorem dX6_batchOf_120 : decode cX6_batchOf 120 = .ok (.getfield 92, 3) := by decide +kernel
theorem dX6_batchOf_123 : decode cX6_batchOf 123 = .ok (.iload_n 1, 1) := by decide +kernel
theorem dX6_batchOf_124 : decode cX6_batchOf 124 = .ok (.iaload, 1) := by decide +kernel
theorem dX6_batchOf_125 : decode cX6_batchOf 125 = .ok (.ireturn, 1) := by decide +kernel
theorem dX6_batchOf_126 : decode cX6_batchOf 126 = .ok (.aload_n 0, 1) := by decide +kernel
theorem dX6_batchOf_127 : decode cX6_batchOf 127 = .ok (.getfield 95, 3) := by decide +kernel
theorem dX6_batchOf_130 : decode cX6_batchOf 130 = .ok (.iload_n 1, 1) := by decide +kernel
theorem dX6_batchOf_131 : decode cX6_batchOf 131 = .ok (.iaload, 1) := by decide +kernel
theorem dX6_batchOf_132 : decode cX6_batchOf 132 = .ok (.ireturn, 1) := by decide +kernel
theorem dX6_batchOf_133 : decode cX6_batchOf 133 = .ok (.aload_n 0, 1) := by decide +kernel
theorem dX6_batchOf_134 : decode cX6_batchOf 134 = .ok (.iload_n 1, 1) := by decide +kernel
theorem dX6_batchOf_135 : decode cX6_batchOf 135 = .ok (.invokevirtual 200, 3) := by decide +kernel
theorem dX6_batchOf_138 : decode cX6_batchOf 138 = .ok (.ireturn, 1) := by decide +kernel
theorem dX6_batchOf_139 : decode cX6_batchOf 139 = .ok (.aload_n 0, 1) := by decide +kernel
theorem dX6_batchOf_140 : decode cX6_batchOf 140 = .ok (.getfield 101, 3) := by decide +kernel
theorem dX6_batchOf_143 : decode cX6_batchOf 143 = .ok (.iload_n 1, 1) := by decide +kernel
theorem dX6_batchOf_144 : decode cX6_batchOf 144 = .ok (.iaload, 1) := by decide +kernel
theorem dX6_batchOf_145 : decode cX6_batchOf 145 = .ok (.ireturn, 1) := by decide +kernel
theorem dX6_wantingAnew_0 : decode cX6_wantingAnew 0 = .ok (.aload_n 0, 1) := by decide +kernel
theorem dX6_wantingAnew_1 : decode cX6_wantingAnew 1 = .ok (.aload_n 0, 1) := by decide +kernel
theorem dX6_wantingAnew_2 : decode cX6_wantingAnew 2 = .ok (.iload_n 1, 1) := by decide +kernel
theorem dX6_wantingAnew_3 : decode cX6_wantingAnew 3 = .ok (.invokevirtual 197, 3) := by decide +kernel
theorem dX6_wantingAnew_6 : decode cX6_wantingAnew 6 = .ok (.ifCond .eq 7, 3) := by decide +kernel
theorem dX6_wantingAnew_9 : decode cX6_wantingAnew 9 = .ok (.iconst 0, 1) := by decide +kernel
theorem dX6_wantingAnew_10 : decode cX6_wantingAnew 10 = .ok (.goto 4, 3) := by decide +kernel
theorem dX6_wantingAnew_13 : decode cX6_wantingAnew 13 = .ok (.iconst 1, 1) := by decide +kernel
theorem dX6_wantingAnew_14 : decode cX6_wantingAnew 14 = .ok (.invokevirtual 127, 3) := by decide +kernel
theorem dX6_wantingAnew_17 : decode cX6_wantingAnew 17 = .ok (.ifCond .eq 7, 3) := by decide +kernel
theorem dX6_wantingAnew_20 : decode cX6_wantingAnew 20 = .ok (.iconst 0, 1) := by decide +kernel
theorem dX6_wantingAnew_21 : decode cX6_wantingAnew 21 = .ok (.goto 9, 3) := by decide +kernel
theorem dX6_wantingAnew_24 : decode cX6_wantingAnew 24 = .ok (.aload_n 0, 1) := by decide +kernel
theorem dX6_wantingAnew_25 : decode cX6_wantingAnew 25 = .ok (.getfield 89, 3) := by decide +kernel
theorem dX6_wantingAnew_28 : decode cX6_wantingAnew 28 = .ok (.iload_n 1, 1) := by decide +kernel
theorem dX6_wantingAnew_29 : decode cX6_wantingAnew 29 = .ok (.iaload, 1) := by decide +kernel
theorem dX6_wantingAnew_30 : decode cX6_wantingAnew 30 = .ok (.ireturn, 1) := by decide +kernel
abbrev vwCl : List vw_C := [(RX0, TX0, 5), (RX1, TX1, 9), (RX2, TX2, 3), (RX3, TX3, 11), (RX4, TX4, 3), (RX5, TX5, 11), (RX6, TX6, 38)]
end
section
theorem dL_act_0 : decode cL_act 0 = .ok (.aload 5, 2) := by decide +kernel
theorem dL_act_2 : decode cL_act 2 = .ok (.iconst 0, 1) := by decide +kernel
theorem dL_act_3 : decode cL_act 3 = .ok (.aload_n 0, 1) := by decide +kernel
theorem dL_act_4 : decode cL_act 4 = .ok (.iload_n 1, 1) := by decide +kernel
theorem dL_act_5 : decode cL_act 5 = .ok (.iload_n 2, 1) := by decide +kernel
theorem dL_act_6 : decode cL_act 6 = .ok (.iload_n 3, 1) := by decide +kernel
theorem dL_act_7 : decode cL_act 7 = .ok (.iload 4, 2) := by decide +kernel
theorem dL_act_9 : decode cL_act 9 = .ok (.invokevirtual 7, 3) := by decide +kernel
theorem dL_act_12 : decode cL_act 12 = .ok (.i2l, 1) := by decide +kernel
theorem dL_act_13 : decode cL_act 13 = .ok (.lastore, 1) := by decide +kernel
theorem dL_act_14 : decode cL_act 14 = .ok (.goto 11, 3) := by decide +kernel
theorem dL_act_17 : decode cL_act 17 = .ok (.astore 6, 2) := by decide +kernel
theorem dL_act_19 : decode cL_act 19 = .ok (.iconst 1, 1) := by decide +kernel
theorem dL_act_20 : decode cL_act 20 = .ok (.ireturn, 1) := by decide +kernel
theorem dL_act_21 : decode cL_act 21 = .ok (.astore 6, 2) := by decide +kernel
theorem dL_act_23 : decode cL_act 23 = .ok (.iconst 2, 1) := by decide +kernel
theorem dL_act_24 : decode cL_act 24 = .ok (.ireturn, 1) := by decide +kernel
theorem dL_act_25 : decode cL_act 25 = .ok (.iconst 0, 1) := by decide +kernel
theorem dL_act_26 : decode cL_act 26 = .ok (.ireturn, 1) := by decide +kernel
theorem dL_special_0 : decode cL_special 0 = .ok (.aload_n 3, 1) := by decide +kernel
theorem dL_special_1 : decode cL_special 1 = .ok (.iconst 0, 1) := by decide +kernel
theorem dL_special_2 : decode cL_special 2 = .ok (.aload_n 0, 1) := by decide +kernel
theorem dL_special_3 : decode cL_special 3 = .ok (.iload_n 1, 1) := by decide +kernel
theorem dL_special_4 : decode cL_special 4 = .ok (.iload_n 2, 1) := by decide +kernel
theorem dL_special_5 : decode cL_special 5 = .ok (.invokevirtual 17, 3) := by decide +kernel
theorem dL_special_8 : decode cL_special 8 = .ok (.ifCond .eq 7, 3) := by decide +kernel
theorem dL_special_11 : decode cL_special 11 = .ok (.lconst 1, 1) := by decide +kernel
theorem dL_special_12 : decode cL_special 12 = .ok (.goto 4, 3) := by decide +kernel
theorem dL_special_15 : decode cL_special 15 = .ok (.lconst 0, 1) := by decide +kernel
theorem dL_special_16 : decode cL_special 16 = .ok (.lastore, 1) := by decide +kernel
theorem dL_special_17 : decode cL_special 17 = .ok (.goto 15, 3) := by decide +kernel
theorem dL_special_20 : decode cL_special 20 = .ok (.astore 4, 2) := by decide +kernel
theorem dL_special_22 : decode cL_special 22 = .ok (.iconst 1, 1) := by decide +kernel
theorem dL_special_23 : decode cL_special 23 = .ok (.ireturn, 1) := by decide +kernel
theorem dL_special_24 : decode cL_special 24 = .ok (.astore 4, 2) := by decide +kernel
theorem dL_special_26 : decode cL_special 26 = .ok (.iconst 2, 1) := by decide +kernel
theorem dL_special_27 : decode cL_special 27 = .ok (.ireturn, 1) := by decide +kernel
theorem dL_special_28 : decode cL_special 28 = .ok (.astore 4, 2) := by decide +kernel
theorem dL_special_30 : decode cL_special 30 = .ok (.iconst 3, 1) := by decide +kernel
theorem dL_special_31 : decode cL_special 31 = .ok (.ireturn, 1) := by decide +kernel
theorem dL_special_32 : decode cL_special 32 = .ok (.iconst 0, 1) := by decide +kernel
theorem dL_special_33 : decode cL_special 33 = .ok (.ireturn, 1) := by decide +kernel
theorem dL_standard_0 : decode cL_standard 0 = .ok (.aload_n 3, 1) := by decide +kernel
theorem dL_standard_1 : decode cL_standard 1 = .ok (.iconst 0, 1) := by decide +kernel
theorem dL_standard_2 : decode cL_standard 2 = .ok (.aload_n 0, 1) := by decide +kernel
theorem dL_standard_3 : decode cL_standard 3 = .ok (.iload_n 1, 1) := by decide +kernel
theorem dL_standard_4 : decode cL_standard 4 = .ok (.iload_n 2, 1) := by decide +kernel
theorem dL_standard_5 : decode cL_standard 5 = .ok (.invokevirtual 23, 3) := by decide +kernel
theorem dL_standard_8 : decode cL_standard 8 = .ok (.i2l, 1) := by decide +kernel
theorem dL_standard_9 : decode cL_standard 9 = .ok (.lastore, 1) := by decide +kernel
theorem dL_standard_10 : decode cL_standard 10 = .ok (.goto 11, 3) := by decide +kernel
theorem dL_standard_13 : decode cL_standard 13 = .ok (.astore 4, 2) := by decide +kernel
theorem dL_standard_15 : decode cL_standard 15 = .ok (.iconst 1, 1) := by decide +kernel
theorem dL_standard_16 : decode cL_standard 16 = .ok (.ireturn, 1) := by decide +kernel
theorem dL_standard_17 : decode cL_standard 17 = .ok (.astore 4, 2) := by decide +kernel
theorem dL_standard_19 : decode cL_standard 19 = .ok (.iconst 2, 1) := by decide +kernel
theorem dL_standard_20 : decode cL_standard 20 = .ok (.ireturn, 1) := by decide +kernel
theorem dL_standard_21 : decode cL_standard 21 = .ok (.iconst 0, 1) := by decide +kernel
theorem dL_standard_22 : decode cL_standard 22 = .ok (.ireturn, 1) := by decide +kernel
theorem dL_withdraw_0 : decode cL_withdraw 0 = .ok (.aload_n 3, 1) := by decide +kernel
theorem dL_withdraw_1 : decode cL_withdraw 1 = .ok (.iconst 0, 1) := by decide +kernel
theorem dL_withdraw_2 : decode cL_withdraw 2 = .ok (.aload_n 0, 1) := by decide +kernel
theorem dL_withdraw_3 : decode cL_withdraw 3 = .ok (.iload_n 1, 1) := by decide +kernel
theorem dL_withdraw_4 : decode cL_withdraw 4 = .ok (.iload_n 2, 1) := by decide +kernel
theorem dL_withdraw_5 : decode cL_withdraw 5 = .ok (.invokevirtual 27, 3) := by decide +kernel
theorem dL_withdraw_8 : decode cL_withdraw 8 = .ok (.i2l, 1) := by decide +kernel
theorem dL_withdraw_9 : decode cL_withdraw 9 = .ok (.lastore, 1) := by decide +kernel
theorem dL_withdraw_10 : decode cL_withdraw 10 = .ok (.goto 11, 3) := by decide +kernel
theorem dL_withdraw_13 : decode cL_withdraw 13 = .ok (.astore 4, 2) := by decide +kernel
theorem dL_withdraw_15 : decode cL_withdraw 15 = .ok (.iconst 1, 1) := by decide +kernel
theorem dL_withdraw_16 : decode cL_withdraw 16 = .ok (.ireturn, 1) := by decide +kernel
theorem dL_withdraw_17 : decode cL_withdraw 17 = .ok (.astore 4, 2) := by decide +kernel
theorem dL_withdraw_19 : decode cL_withdraw 19 = .ok (.iconst 2, 1) := by decide +kernel
theorem dL_withdraw_20 : decode cL_withdraw 20 = .ok (.ireturn, 1) := by decide +kernel
theorem dL_withdraw_21 : decode cL_withdraw 21 = .ok (.iconst 0, 1) := by decide +kernel
theorem dL_withdraw_22 : decode cL_withdraw 22 = .ok (.ireturn, 1) := by decide +kernel
theorem dL_restrict_0 : decode cL_restrict 0 = .ok (.aload_n 3, 1) := by decide +kernel
theorem dL_restrict_1 : decode cL_restrict 1 = .ok (.iconst 0, 1) := by decide +kernel
theorem dL_restrict_2 : decode cL_restrict 2 = .ok (.aload_n 0, 1) := by decide +kernel
theorem dL_restrict_3 : decode cL_restrict 3 = .ok (.iload_n 1, 1) := by decide +kernel
theorem dL_restrict_4 : decode cL_restrict 4 = .ok (.iload_n 2, 1) := by decide +kernel
theorem dL_restrict_5 : decode cL_restrict 5 = .ok (.invokevirtual 30, 3) := by decide +kernel
theorem dL_restrict_8 : decode cL_restrict 8 = .ok (.i2l, 1) := by decide +kernel
theorem dL_restrict_9 : decode cL_restrict 9 = .ok (.lastore, 1) := by decide +kernel
theorem dL_restrict_10 : decode cL_restrict 10 = .ok (.goto 11, 3) := by decide +kernel
theorem dL_restrict_13 : decode cL_restrict 13 = .ok (.astore 4, 2) := by decide +kernel
theorem dL_restrict_15 : decode cL_restrict 15 = .ok (.iconst 1, 1) := by decide +kernel
theorem dL_restrict_16 : decode cL_restrict 16 = .ok (.ireturn, 1) := by decide +kernel
theorem dL_restrict_17 : decode cL_restrict 17 = .ok (.astore 4, 2) := by decide +kernel
theorem dL_restrict_19 : decode cL_restrict 19 = .ok (.iconst 2, 1) := by decide +kernel
theorem dL_restrict_20 : decode cL_restrict 20 = .ok (.ireturn, 1) := by decide +kernel
theorem dL_restrict_21 : decode cL_restrict 21 = .ok (.iconst 0, 1) := by decide +kernel
theorem dL_restrict_22 : decode cL_restrict 22 = .ok (.ireturn, 1) := by decide +kernel
theorem dL_product_0 : decode cL_product 0 = .ok (.aload_n 2, 1) := by decide +kernel
theorem dL_product_1 : decode cL_product 1 = .ok (.iconst 0, 1) := by decide +kernel
theorem dL_product_2 : decode cL_product 2 = .ok (.aload_n 0, 1) := by decide +kernel
theorem dL_product_3 : decode cL_product 3 = .ok (.iload_n 1, 1) := by decide +kernel
theorem dL_product_4 : decode cL_product 4 = .ok (.invokevirtual 33, 3) := by decide +kernel
theorem dL_product_7 : decode cL_product 7 = .ok (.i2l, 1) := by decide +kernel
theorem dL_product_8 : decode cL_product 8 = .ok (.lastore, 1) := by decide +kernel
theorem dL_product_9 : decode cL_product 9 = .ok (.goto 9, 3) := by decide +kernel
theorem dL_product_12 : decode cL_product 12 = .ok (.astore_n 3, 1) := by decide +kernel
theorem dL_product_13 : decode cL_product 13 = .ok (.iconst 1, 1) := by decide +kernel
theorem dL_product_14 : decode cL_product 14 = .ok (.ireturn, 1) := by decide +kernel
theorem dL_product_15 : decode cL_product 15 = .ok (.astore_n 3, 1) := by decide +kernel
theorem dL_product_16 : decode cL_product 16 = .ok (.iconst 2, 1) := by decide +kernel
theorem dL_product_17 : decode cL_product 17 = .ok (.ireturn, 1) := by decide +kernel
theorem dL_product_18 : decode cL_product 18 = .ok (.iconst 0, 1) := by decide +kernel
theorem dL_product_19 : decode cL_product 19 = .ok (.ireturn, 1) := by decide +kernel
theorem dL_change_0 : decode cL_change 0 = .ok (.aload_n 3, 1) := by decide +kernel
theorem dL_change_1 : decode cL_change 1 = .ok (.iconst 0, 1) := by decide +kernel
theorem dL_change_2 : decode cL_change 2 = .ok (.aload_n 0, 1) := by decide +kernel
theorem dL_change_3 : decode cL_change 3 = .ok (.iload_n 1, 1) := by decide +kernel
theorem dL_change_4 : decode cL_change 4 = .ok (.iload_n 2, 1) := by decide +kernel
theorem dL_change_5 : decode cL_change 5 = .ok (.invokevirtual 37, 3) := by decide +kernel
theorem dL_change_8 : decode cL_change 8 = .ok (.i2l, 1) := by decide +kernel
theorem dL_change_9 : decode cL_change 9 = .ok (.lastore, 1) := by decide +kernel
theorem dL_change_10 : decode cL_change 10 = .ok (.goto 11, 3) := by decide +kernel
theorem dL_change_13 : decode cL_change 13 = .ok (.astore 4, 2) := by decide +kernel
theorem dL_change_15 : decode cL_change 15 = .ok (.iconst 1, 1) := by decide +kernel
theorem dL_change_16 : decode cL_change 16 = .ok (.ireturn, 1) := by decide +kernel
theorem dL_change_17 : decode cL_change 17 = .ok (.astore 4, 2) := by decide +kernel
theorem dL_change_19 : decode cL_change 19 = .ok (.iconst 2, 1) := by decide +kernel
theorem dL_change_20 : decode cL_change 20 = .ok (.ireturn, 1) := by decide +kernel
theorem dL_change_21 : decode cL_change 21 = .ok (.iconst 0, 1) := by decide +kernel
theorem dL_change_22 : decode cL_change 22 = .ok (.ireturn, 1) := by decide +kernel
theorem dL_risk_0 : decode cL_risk 0 = .ok (.aload 5, 2) := by decide +kernel
theorem dL_risk_2 : decode cL_risk 2 = .ok (.iconst 0, 1) := by decide +kernel
theorem dL_risk_3 : decode cL_risk 3 = .ok (.aload_n 0, 1) := by decide +kernel
theorem dL_risk_4 : decode cL_risk 4 = .ok (.iload_n 1, 1) := by decide +kernel
theorem dL_risk_5 : decode cL_risk 5 = .ok (.iload_n 2, 1) := by decide +kernel
theorem dL_risk_6 : decode cL_risk 6 = .ok (.iload_n 3, 1) := by decide +kernel
theorem dL_risk_7 : decode cL_risk 7 = .ok (.iload 4, 2) := by decide +kernel
theorem dL_risk_9 : decode cL_risk 9 = .ok (.invokevirtual 40, 3) := by decide +kernel
theorem dL_risk_12 : decode cL_risk 12 = .ok (.i2l, 1) := by decide +kernel
theorem dL_risk_13 : decode cL_risk 13 = .ok (.lastore, 1) := by decide +kernel
theorem dL_risk_14 : decode cL_risk 14 = .ok (.goto 11, 3) := by decide +kernel
theorem dL_risk_17 : decode cL_risk 17 = .ok (.astore 6, 2) := by decide +kernel
theorem dL_risk_19 : decode cL_risk 19 = .ok (.iconst 1, 1) := by decide +kernel
theorem dL_risk_20 : decode cL_risk 20 = .ok (.ireturn, 1) := by decide +kernel
theorem dL_risk_21 : decode cL_risk 21 = .ok (.astore 6, 2) := by decide +kernel
theorem dL_risk_23 : decode cL_risk 23 = .ok (.iconst 2, 1) := by decide +kernel
theorem dL_risk_24 : decode cL_risk 24 = .ok (.ireturn, 1) := by decide +kernel
theorem dL_risk_25 : decode cL_risk 25 = .ok (.iconst 0, 1) := by decide +kernel
theorem dL_risk_26 : decode cL_risk 26 = .ok (.ireturn, 1) := by decide +kernel
theorem dL_follow_0 : decode cL_follow 0 = .ok (.aload 4, 2) := by decide +kernel
theorem dL_follow_2 : decode cL_follow 2 = .ok (.iconst 0, 1) := by decide +kernel
theorem dL_follow_3 : decode cL_follow 3 = .ok (.aload_n 0, 1) := by decide +kernel
theorem dL_follow_4 : decode cL_follow 4 = .ok (.iload_n 1, 1) := by decide +kernel
theorem dL_follow_5 : decode cL_follow 5 = .ok (.iload_n 2, 1) := by decide +kernel
theorem dL_follow_6 : decode cL_follow 6 = .ok (.iload_n 3, 1) := by decide +kernel
theorem dL_follow_7 : decode cL_follow 7 = .ok (.invokevirtual 43, 3) := by decide +kernel
theorem dL_follow_10 : decode cL_follow 10 = .ok (.i2l, 1) := by decide +kernel
theorem dL_follow_11 : decode cL_follow 11 = .ok (.lastore, 1) := by decide +kernel
theorem dL_follow_12 : decode cL_follow 12 = .ok (.goto 11, 3) := by decide +kernel
theorem dL_follow_15 : decode cL_follow 15 = .ok (.astore 5, 2) := by decide +kernel
theorem dL_follow_17 : decode cL_follow 17 = .ok (.iconst 1, 1) := by decide +kernel
theorem dL_follow_18 : decode cL_follow 18 = .ok (.ireturn, 1) := by decide +kernel
theorem dL_follow_19 : decode cL_follow 19 = .ok (.astore 5, 2) := by decide +kernel
theorem dL_follow_21 : decode cL_follow 21 = .ok (.iconst 2, 1) := by decide +kernel
theorem dL_follow_22 : decode cL_follow 22 = .ok (.ireturn, 1) := by decide +kernel
theorem dL_follow_23 : decode cL_follow 23 = .ok (.iconst 0, 1) := by decide +kernel
theorem dL_follow_24 : decode cL_follow 24 = .ok (.ireturn, 1) := by decide +kernel
theorem dL_prove_0 : decode cL_prove 0 = .ok (.aload_n 3, 1) := by decide +kernel
theorem dL_prove_1 : decode cL_prove 1 = .ok (.iconst 0, 1) := by decide +kernel
theorem dL_prove_2 : decode cL_prove 2 = .ok (.aload_n 0, 1) := by decide +kernel
theorem dL_prove_3 : decode cL_prove 3 = .ok (.iload_n 1, 1) := by decide +kernel
theorem dL_prove_4 : decode cL_prove 4 = .ok (.iload_n 2, 1) := by decide +kernel
theorem dL_prove_5 : decode cL_prove 5 = .ok (.invokevirtual 47, 3) := by decide +kernel
theorem dL_prove_8 : decode cL_prove 8 = .ok (.i2l, 1) := by decide +kernel
theorem dL_prove_9 : decode cL_prove 9 = .ok (.lastore, 1) := by decide +kernel
theorem dL_prove_10 : decode cL_prove 10 = .ok (.goto 11, 3) := by decide +kernel
theorem dL_prove_13 : decode cL_prove 13 = .ok (.astore 4, 2) := by decide +kernel
theorem dL_prove_15 : decode cL_prove 15 = .ok (.iconst 1, 1) := by decide +kernel
theorem dL_prove_16 : decode cL_prove 16 = .ok (.ireturn, 1) := by decide +kernel
theorem dL_prove_17 : decode cL_prove 17 = .ok (.astore 4, 2) := by decide +kernel
theorem dL_prove_19 : decode cL_prove 19 = .ok (.iconst 2, 1) := by decide +kernel
theorem dL_prove_20 : decode cL_prove 20 = .ok (.ireturn, 1) := by decide +kernel
theorem dL_prove_21 : decode cL_prove 21 = .ok (.iconst 0, 1) := by decide +kernel
theorem dL_prove_22 : decode cL_prove 22 = .ok (.ireturn, 1) := by decide +kernel
theorem dL_declare_0 : decode cL_declare 0 = .ok (.aload_n 2, 1) := by decide +kernel
theorem dL_declare_1 : decode cL_declare 1 = .ok (.iconst 0, 1) := by decide +kernel
theorem dL_declare_2 : decode cL_declare 2 = .ok (.aload_n 0, 1) := by decide +kernel
theorem dL_declare_3 : decode cL_declare 3 = .ok (.iload_n 1, 1) := by decide +kernel
theorem dL_declare_4 : decode cL_declare 4 = .ok (.invokevirtual 50, 3) := by decide +kernel
theorem dL_declare_7 : decode cL_declare 7 = .ok (.i2l, 1) := by decide +kernel
theorem dL_declare_8 : decode cL_declare 8 = .ok (.lastore, 1) := by decide +kernel
theorem dL_declare_9 : decode cL_declare 9 = .ok (.goto 9, 3) := by decide +kernel
theorem dL_declare_12 : decode cL_declare 12 = .ok (.astore_n 3, 1) := by decide +kernel
theorem dL_declare_13 : decode cL_declare 13 = .ok (.iconst 1, 1) := by decide +kernel
theorem dL_declare_14 : decode cL_declare 14 = .ok (.ireturn, 1) := by decide +kernel
theorem dL_declare_15 : decode cL_declare 15 = .ok (.astore_n 3, 1) := by decide +kernel
theorem dL_declare_16 : decode cL_declare 16 = .ok (.iconst 2, 1) := by decide +kernel
theorem dL_declare_17 : decode cL_declare 17 = .ok (.ireturn, 1) := by decide +kernel
theorem dL_declare_18 : decode cL_declare 18 = .ok (.iconst 0, 1) := by decide +kernel
theorem dL_declare_19 : decode cL_declare 19 = .ok (.ireturn, 1) := by decide +kernel
theorem dL_body_0 : decode cL_body 0 = .ok (.aload_n 2, 1) := by decide +kernel
theorem dL_body_1 : decode cL_body 1 = .ok (.iconst 0, 1) := by decide +kernel
theorem dL_body_2 : decode cL_body 2 = .ok (.aload_n 0, 1) := by decide +kernel
theorem dL_body_3 : decode cL_body 3 = .ok (.iload_n 1, 1) := by decide +kernel
theorem dL_body_4 : decode cL_body 4 = .ok (.invokevirtual 53, 3) := by decide +kernel
theorem dL_body_7 : decode cL_body 7 = .ok (.i2l, 1) := by decide +kernel
theorem dL_body_8 : decode cL_body 8 = .ok (.lastore, 1) := by decide +kernel
theorem dL_body_9 : decode cL_body 9 = .ok (.goto 9, 3) := by decide +kernel
theorem dL_body_12 : decode cL_body 12 = .ok (.astore_n 3, 1) := by decide +kernel
theorem dL_body_13 : decode cL_body 13 = .ok (.iconst 1, 1) := by decide +kernel
theorem dL_body_14 : decode cL_body 14 = .ok (.ireturn, 1) := by decide +kernel
theorem dL_body_15 : decode cL_body 15 = .ok (.astore_n 3, 1) := by decide +kernel
theorem dL_body_16 : decode cL_body 16 = .ok (.iconst 2, 1) := by decide +kernel
theorem dL_body_17 : decode cL_body 17 = .ok (.ireturn, 1) := by decide +kernel
theorem dL_body_18 : decode cL_body 18 = .ok (.iconst 0, 1) := by decide +kernel
theorem dL_body_19 : decode cL_body 19 = .ok (.ireturn, 1) := by decide +kernel
theorem dL_suspend_0 : decode cL_suspend 0 = .ok (.aload_n 3, 1) := by decide +kernel
theorem dL_suspend_1 : decode cL_suspend 1 = .ok (.iconst 0, 1) := by decide +kernel
theorem dL_suspend_2 : decode cL_suspend 2 = .ok (.aload_n 0, 1) := by decide +kernel
theorem dL_suspend_3 : decode cL_suspend 3 = .ok (.iload_n 1, 1) := by decide +kernel
theorem dL_suspend_4 : decode cL_suspend 4 = .ok (.iload_n 2, 1) := by decide +kernel
theorem dL_suspend_5 : decode cL_suspend 5 = .ok (.invokevirtual 56, 3) := by decide +kernel
theorem dL_suspend_8 : decode cL_suspend 8 = .ok (.ifCond .eq 7, 3) := by decide +kernel
theorem dL_suspend_11 : decode cL_suspend 11 = .ok (.lconst 1, 1) := by decide +kernel
theorem dL_suspend_12 : decode cL_suspend 12 = .ok (.goto 4, 3) := by decide +kernel
theorem dL_suspend_15 : decode cL_suspend 15 = .ok (.lconst 0, 1) := by decide +kernel
theorem dL_suspend_16 : decode cL_suspend 16 = .ok (.lastore, 1) := by decide +kernel
theorem dL_suspend_17 : decode cL_suspend 17 = .ok (.goto 7, 3) := by decide +kernel
theorem dL_suspend_20 : decode cL_suspend 20 = .ok (.astore 4, 2) := by decide +kernel
theorem dL_suspend_22 : decode cL_suspend 22 = .ok (.iconst 1, 1) := by decide +kernel
theorem dL_suspend_23 : decode cL_suspend 23 = .ok (.ireturn, 1) := by decide +kernel
theorem dL_suspend_24 : decode cL_suspend 24 = .ok (.iconst 0, 1) := by decide +kernel
theorem dL_suspend_25 : decode cL_suspend 25 = .ok (.ireturn, 1) := by decide +kernel
theorem dL_certify_0 : decode cL_certify 0 = .ok (.aload 4, 2) := by decide +kernel
theorem dL_certify_2 : decode cL_certify 2 = .ok (.iconst 0, 1) := by decide +kernel
theorem dL_certify_3 : decode cL_certify 3 = .ok (.aload_n 0, 1) := by decide +kernel
theorem dL_certify_4 : decode cL_certify 4 = .ok (.iload_n 1, 1) := by decide +kernel
theorem dL_certify_5 : decode cL_certify 5 = .ok (.iload_n 2, 1) := by decide +kernel
theorem dL_certify_6 : decode cL_certify 6 = .ok (.iload_n 3, 1) := by decide +kernel
theorem dL_certify_7 : decode cL_certify 7 = .ok (.invokevirtual 60, 3) := by decide +kernel
theorem dL_certify_10 : decode cL_certify 10 = .ok (.i2l, 1) := by decide +kernel
theorem dL_certify_11 : decode cL_certify 11 = .ok (.lastore, 1) := by decide +kernel
theorem dL_certify_12 : decode cL_certify 12 = .ok (.goto 15, 3) := by decide +kernel
theorem dL_certify_15 : decode cL_certify 15 = .ok (.astore 5, 2) := by decide +kernel
theorem dL_certify_17 : decode cL_certify 17 = .ok (.iconst 1, 1) := by decide +kernel
theorem dL_certify_18 : decode cL_certify 18 = .ok (.ireturn, 1) := by decide +kernel
theorem dL_certify_19 : decode cL_certify 19 = .ok (.astore 5, 2) := by decide +kernel
theorem dL_certify_21 : decode cL_certify 21 = .ok (.iconst 2, 1) := by decide +kernel
theorem dL_certify_22 : decode cL_certify 22 = .ok (.ireturn, 1) := by decide +kernel
theorem dL_certify_23 : decode cL_certify 23 = .ok (.astore 5, 2) := by decide +kernel
theorem dL_certify_25 : decode cL_certify 25 = .ok (.iconst 3, 1) := by decide +kernel
theorem dL_certify_26 : decode cL_certify 26 = .ok (.ireturn, 1) := by decide +kernel
theorem dL_certify_27 : decode cL_certify 27 = .ok (.iconst 0, 1) := by decide +kernel
theorem dL_certify_28 : decode cL_certify 28 = .ok (.ireturn, 1) := by decide +kernel
theorem dL_transfer_0 : decode cL_transfer 0 = .ok (.aload_n 3, 1) := by decide +kernel
theorem dL_transfer_1 : decode cL_transfer 1 = .ok (.iconst 0, 1) := by decide +kernel
theorem dL_transfer_2 : decode cL_transfer 2 = .ok (.aload_n 0, 1) := by decide +kernel
theorem dL_transfer_3 : decode cL_transfer 3 = .ok (.iload_n 1, 1) := by decide +kernel
theorem dL_transfer_4 : decode cL_transfer 4 = .ok (.iload_n 2, 1) := by decide +kernel
theorem dL_transfer_5 : decode cL_transfer 5 = .ok (.invokevirtual 63, 3) := by decide +kernel
theorem dL_transfer_8 : decode cL_transfer 8 = .ok (.i2l, 1) := by decide +kernel
theorem dL_transfer_9 : decode cL_transfer 9 = .ok (.lastore, 1) := by decide +kernel
theorem dL_transfer_10 : decode cL_transfer 10 = .ok (.goto 11, 3) := by decide +kernel
theorem dL_transfer_13 : decode cL_transfer 13 = .ok (.astore 4, 2) := by decide +kernel
theorem dL_transfer_15 : decode cL_transfer 15 = .ok (.iconst 1, 1) := by decide +kernel
theorem dL_transfer_16 : decode cL_transfer 16 = .ok (.ireturn, 1) := by decide +kernel
theorem dL_transfer_17 : decode cL_transfer 17 = .ok (.astore 4, 2) := by decide +kernel
theorem dL_transfer_19 : decode cL_transfer 19 = .ok (.iconst 2, 1) := by decide +kernel
theorem dL_transfer_20 : decode cL_transfer 20 = .ok (.ireturn, 1) := by decide +kernel
theorem dL_transfer_21 : decode cL_transfer 21 = .ok (.iconst 0, 1) := by decide +kernel
theorem dL_transfer_22 : decode cL_transfer 22 = .ok (.ireturn, 1) := by decide +kernel
theorem dL_visit_0 : decode cL_visit 0 = .ok (.aload_n 3, 1) := by decide +kernel
theorem dL_visit_1 : decode cL_visit 1 = .ok (.iconst 0, 1) := by decide +kernel
theorem dL_visit_2 : decode cL_visit 2 = .ok (.aload_n 0, 1) := by decide +kernel
theorem dL_visit_3 : decode cL_visit 3 = .ok (.iload_n 1, 1) := by decide +kernel
theorem dL_visit_4 : decode cL_visit 4 = .ok (.iload_n 2, 1) := by decide +kernel
theorem dL_visit_5 : decode cL_visit 5 = .ok (.invokevirtual 66, 3) := by decide +kernel
theorem dL_visit_8 : decode cL_visit 8 = .ok (.ifCond .eq 7, 3) := by decide +kernel
theorem dL_visit_11 : decode cL_visit 11 = .ok (.lconst 1, 1) := by decide +kernel
theorem dL_visit_12 : decode cL_visit 12 = .ok (.goto 4, 3) := by decide +kernel
theorem dL_visit_15 : decode cL_visit 15 = .ok (.lconst 0, 1) := by decide +kernel
theorem dL_visit_16 : decode cL_visit 16 = .ok (.lastore, 1) := by decide +kernel
theorem dL_visit_17 : decode cL_visit 17 = .ok (.goto 7, 3) := by decide +kernel
theorem dL_visit_20 : decode cL_visit 20 = .ok (.astore 4, 2) := by decide +kernel
theorem dL_visit_22 : decode cL_visit 22 = .ok (.iconst 1, 1) := by decide +kernel
theorem dL_visit_23 : decode cL_visit 23 = .ok (.ireturn, 1) := by decide +kernel
theorem dL_visit_24 : decode cL_visit 24 = .ok (.iconst 0, 1) := by decide +kernel
theorem dL_visit_25 : decode cL_visit 25 = .ok (.ireturn, 1) := by decide +kernel
theorem dL_place_0 : decode cL_place 0 = .ok (.aload_n 3, 1) := by decide +kernel
theorem dL_place_1 : decode cL_place 1 = .ok (.iconst 0, 1) := by decide +kernel
theorem dL_place_2 : decode cL_place 2 = .ok (.aload_n 0, 1) := by decide +kernel
theorem dL_place_3 : decode cL_place 3 = .ok (.iload_n 1, 1) := by decide +kernel
theorem dL_place_4 : decode cL_place 4 = .ok (.iload_n 2, 1) := by decide +kernel
theorem dL_place_5 : decode cL_place 5 = .ok (.invokevirtual 69, 3) := by decide +kernel
theorem dL_place_8 : decode cL_place 8 = .ok (.i2l, 1) := by decide +kernel
theorem dL_place_9 : decode cL_place 9 = .ok (.lastore, 1) := by decide +kernel
theorem dL_place_10 : decode cL_place 10 = .ok (.goto 15, 3) := by decide +kernel
theorem dL_place_13 : decode cL_place 13 = .ok (.astore 4, 2) := by decide +kernel
theorem dL_place_15 : decode cL_place 15 = .ok (.iconst 1, 1) := by decide +kernel
theorem dL_place_16 : decode cL_place 16 = .ok (.ireturn, 1) := by decide +kernel
theorem dL_place_17 : decode cL_place 17 = .ok (.astore 4, 2) := by decide +kernel
theorem dL_place_19 : decode cL_place 19 = .ok (.iconst 2, 1) := by decide +kernel
theorem dL_place_20 : decode cL_place 20 = .ok (.ireturn, 1) := by decide +kernel
theorem dL_place_21 : decode cL_place 21 = .ok (.astore 4, 2) := by decide +kernel
theorem dL_place_23 : decode cL_place 23 = .ok (.iconst 3, 1) := by decide +kernel
theorem dL_place_24 : decode cL_place 24 = .ok (.ireturn, 1) := by decide +kernel
theorem dL_place_25 : decode cL_place 25 = .ok (.iconst 0, 1) := by decide +kernel
theorem dL_place_26 : decode cL_place 26 = .ok (.ireturn, 1) := by decide +kernel
theorem dL_post_0 : decode cL_post 0 = .ok (.aload_n 3, 1) := by decide +kernel
theorem dL_post_1 : decode cL_post 1 = .ok (.iconst 0, 1) := by decide +kernel
theorem dL_post_2 : decode cL_post 2 = .ok (.aload_n 0, 1) := by decide +kernel
theorem dL_post_3 : decode cL_post 3 = .ok (.iload_n 1, 1) := by decide +kernel
theorem dL_post_4 : decode cL_post 4 = .ok (.iload_n 2, 1) := by decide +kernel
theorem dL_post_5 : decode cL_post 5 = .ok (.invokevirtual 72, 3) := by decide +kernel
theorem dL_post_8 : decode cL_post 8 = .ok (.i2l, 1) := by decide +kernel
theorem dL_post_9 : decode cL_post 9 = .ok (.lastore, 1) := by decide +kernel
theorem dL_post_10 : decode cL_post 10 = .ok (.goto 15, 3) := by decide +kernel
theorem dL_post_13 : decode cL_post 13 = .ok (.astore 4, 2) := by decide +kernel
theorem dL_post_15 : decode cL_post 15 = .ok (.iconst 1, 1) := by decide +kernel
theorem dL_post_16 : decode cL_post 16 = .ok (.ireturn, 1) := by decide +kernel
theorem dL_post_17 : decode cL_post 17 = .ok (.astore 4, 2) := by decide +kernel
theorem dL_post_19 : decode cL_post 19 = .ok (.iconst 2, 1) := by decide +kernel
theorem dL_post_20 : decode cL_post 20 = .ok (.ireturn, 1) := by decide +kernel
theorem dL_post_21 : decode cL_post 21 = .ok (.astore 4, 2) := by decide +kernel
theorem dL_post_23 : decode cL_post 23 = .ok (.iconst 3, 1) := by decide +kernel
theorem dL_post_24 : decode cL_post 24 = .ok (.ireturn, 1) := by decide +kernel
theorem dL_post_25 : decode cL_post 25 = .ok (.iconst 0, 1) := by decide +kernel
theorem dL_post_26 : decode cL_post 26 = .ok (.ireturn, 1) := by decide +kernel
theorem dL_sample_0 : decode cL_sample 0 = .ok (.aload 5, 2) := by decide +kernel
theorem dL_sample_2 : decode cL_sample 2 = .ok (.iconst 0, 1) := by decide +kernel
theorem dL_sample_3 : decode cL_sample 3 = .ok (.aload_n 0, 1) := by decide +kernel
theorem dL_sample_4 : decode cL_sample 4 = .ok (.iload_n 1, 1) := by decide +kernel
theorem dL_sample_5 : decode cL_sample 5 = .ok (.iload_n 2, 1) := by decide +kernel
theorem dL_sample_6 : decode cL_sample 6 = .ok (.iload_n 3, 1) := by decide +kernel
theorem dL_sample_7 : decode cL_sample 7 = .ok (.iload 4, 2) := by decide +kernel
theorem dL_sample_9 : decode cL_sample 9 = .ok (.invokevirtual 75, 3) := by decide +kernel
theorem dL_sample_12 : decode cL_sample 12 = .ok (.i2l, 1) := by decide +kernel
theorem dL_sample_13 : decode cL_sample 13 = .ok (.lastore, 1) := by decide +kernel
theorem dL_sample_14 : decode cL_sample 14 = .ok (.goto 11, 3) := by decide +kernel
theorem dL_sample_17 : decode cL_sample 17 = .ok (.astore 6, 2) := by decide +kernel
theorem dL_sample_19 : decode cL_sample 19 = .ok (.iconst 1, 1) := by decide +kernel
theorem dL_sample_20 : decode cL_sample 20 = .ok (.ireturn, 1) := by decide +kernel
theorem dL_sample_21 : decode cL_sample 21 = .ok (.astore 6, 2) := by decide +kernel
theorem dL_sample_23 : decode cL_sample 23 = .ok (.iconst 2, 1) := by decide +kernel
theorem dL_sample_24 : decode cL_sample 24 = .ok (.ireturn, 1) := by decide +kernel
theorem dL_sample_25 : decode cL_sample 25 = .ok (.iconst 0, 1) := by decide +kernel
theorem dL_sample_26 : decode cL_sample 26 = .ok (.ireturn, 1) := by decide +kernel
theorem dL_event_0 : decode cL_event 0 = .ok (.aload 4, 2) := by decide +kernel
theorem dL_event_2 : decode cL_event 2 = .ok (.iconst 0, 1) := by decide +kernel
theorem dL_event_3 : decode cL_event 3 = .ok (.aload_n 0, 1) := by decide +kernel
theorem dL_event_4 : decode cL_event 4 = .ok (.iload_n 1, 1) := by decide +kernel
theorem dL_event_5 : decode cL_event 5 = .ok (.iload_n 2, 1) := by decide +kernel
theorem dL_event_6 : decode cL_event 6 = .ok (.iload_n 3, 1) := by decide +kernel
theorem dL_event_7 : decode cL_event 7 = .ok (.invokevirtual 78, 3) := by decide +kernel
theorem dL_event_10 : decode cL_event 10 = .ok (.i2l, 1) := by decide +kernel
theorem dL_event_11 : decode cL_event 11 = .ok (.lastore, 1) := by decide +kernel
theorem dL_event_12 : decode cL_event 12 = .ok (.goto 11, 3) := by decide +kernel
theorem dL_event_15 : decode cL_event 15 = .ok (.astore 5, 2) := by decide +kernel
theorem dL_event_17 : decode cL_event 17 = .ok (.iconst 1, 1) := by decide +kernel
theorem dL_event_18 : decode cL_event 18 = .ok (.ireturn, 1) := by decide +kernel
theorem dL_event_19 : decode cL_event 19 = .ok (.astore 5, 2) := by decide +kernel
theorem dL_event_21 : decode cL_event 21 = .ok (.iconst 2, 1) := by decide +kernel
theorem dL_event_22 : decode cL_event 22 = .ok (.ireturn, 1) := by decide +kernel
theorem dL_event_23 : decode cL_event 23 = .ok (.iconst 0, 1) := by decide +kernel
theorem dL_event_24 : decode cL_event 24 = .ok (.ireturn, 1) := by decide +kernel
theorem dL_recall_0 : decode cL_recall 0 = .ok (.aload 4, 2) := by decide +kernel
theorem dL_recall_2 : decode cL_recall 2 = .ok (.iconst 0, 1) := by decide +kernel
theorem dL_recall_3 : decode cL_recall 3 = .ok (.aload_n 0, 1) := by decide +kernel
theorem dL_recall_4 : decode cL_recall 4 = .ok (.iload_n 1, 1) := by decide +kernel
theorem dL_recall_5 : decode cL_recall 5 = .ok (.iload_n 2, 1) := by decide +kernel
theorem dL_recall_6 : decode cL_recall 6 = .ok (.iload_n 3, 1) := by decide +kernel
theorem dL_recall_7 : decode cL_recall 7 = .ok (.invokevirtual 81, 3) := by decide +kernel
theorem dL_recall_10 : decode cL_recall 10 = .ok (.i2l, 1) := by decide +kernel
theorem dL_recall_11 : decode cL_recall 11 = .ok (.lastore, 1) := by decide +kernel
theorem dL_recall_12 : decode cL_recall 12 = .ok (.goto 11, 3) := by decide +kernel
theorem dL_recall_15 : decode cL_recall 15 = .ok (.astore 5, 2) := by decide +kernel
theorem dL_recall_17 : decode cL_recall 17 = .ok (.iconst 1, 1) := by decide +kernel
theorem dL_recall_18 : decode cL_recall 18 = .ok (.ireturn, 1) := by decide +kernel
theorem dL_recall_19 : decode cL_recall 19 = .ok (.astore 5, 2) := by decide +kernel
theorem dL_recall_21 : decode cL_recall 21 = .ok (.iconst 2, 1) := by decide +kernel
theorem dL_recall_22 : decode cL_recall 22 = .ok (.ireturn, 1) := by decide +kernel
theorem dL_recall_23 : decode cL_recall 23 = .ok (.iconst 0, 1) := by decide +kernel
theorem dL_recall_24 : decode cL_recall 24 = .ok (.ireturn, 1) := by decide +kernel
theorem dL_ban_0 : decode cL_ban 0 = .ok (.aload 4, 2) := by decide +kernel
theorem dL_ban_2 : decode cL_ban 2 = .ok (.iconst 0, 1) := by decide +kernel
theorem dL_ban_3 : decode cL_ban 3 = .ok (.aload_n 0, 1) := by decide +kernel
theorem dL_ban_4 : decode cL_ban 4 = .ok (.iload_n 1, 1) := by decide +kernel
theorem dL_ban_5 : decode cL_ban 5 = .ok (.iload_n 2, 1) := by decide +kernel
theorem dL_ban_6 : decode cL_ban 6 = .ok (.iload_n 3, 1) := by decide +kernel
theorem dL_ban_7 : decode cL_ban 7 = .ok (.invokevirtual 84, 3) := by decide +kernel
theorem dL_ban_10 : decode cL_ban 10 = .ok (.i2l, 1) := by decide +kernel
theorem dL_ban_11 : decode cL_ban 11 = .ok (.lastore, 1) := by decide +kernel
theorem dL_ban_12 : decode cL_ban 12 = .ok (.goto 7, 3) := by decide +kernel
theorem dL_ban_15 : decode cL_ban 15 = .ok (.astore 5, 2) := by decide +kernel
theorem dL_ban_17 : decode cL_ban 17 = .ok (.iconst 1, 1) := by decide +kernel
theorem dL_ban_18 : decode cL_ban 18 = .ok (.ireturn, 1) := by decide +kernel
theorem dL_ban_19 : decode cL_ban 19 = .ok (.iconst 0, 1) := by decide +kernel
theorem dL_ban_20 : decode cL_ban 20 = .ok (.ireturn, 1) := by decide +kernel
theorem dL_pass_0 : decode cL_pass 0 = .ok (.aload_n 2, 1) := by decide +kernel
theorem dL_pass_1 : decode cL_pass 1 = .ok (.iconst 0, 1) := by decide +kernel
theorem dL_pass_2 : decode cL_pass 2 = .ok (.aload_n 0, 1) := by decide +kernel
theorem dL_pass_3 : decode cL_pass 3 = .ok (.iload_n 1, 1) := by decide +kernel
theorem dL_pass_4 : decode cL_pass 4 = .ok (.invokevirtual 88, 3) := by decide +kernel
theorem dL_pass_7 : decode cL_pass 7 = .ok (.i2l, 1) := by decide +kernel
theorem dL_pass_8 : decode cL_pass 8 = .ok (.lastore, 1) := by decide +kernel
theorem dL_pass_9 : decode cL_pass 9 = .ok (.goto 9, 3) := by decide +kernel
theorem dL_pass_12 : decode cL_pass 12 = .ok (.astore_n 3, 1) := by decide +kernel
theorem dL_pass_13 : decode cL_pass 13 = .ok (.iconst 1, 1) := by decide +kernel
theorem dL_pass_14 : decode cL_pass 14 = .ok (.ireturn, 1) := by decide +kernel
theorem dL_pass_15 : decode cL_pass 15 = .ok (.astore_n 3, 1) := by decide +kernel
theorem dL_pass_16 : decode cL_pass 16 = .ok (.iconst 2, 1) := by decide +kernel
theorem dL_pass_17 : decode cL_pass 17 = .ok (.ireturn, 1) := by decide +kernel
theorem dL_pass_18 : decode cL_pass 18 = .ok (.iconst 0, 1) := by decide +kernel
theorem dL_pass_19 : decode cL_pass 19 = .ok (.ireturn, 1) := by decide +kernel
theorem dL_applies_0 : decode cL_applies 0 = .ok (.aload_n 3, 1) := by decide +kernel
theorem dL_applies_1 : decode cL_applies 1 = .ok (.iconst 0, 1) := by decide +kernel
theorem dL_applies_2 : decode cL_applies 2 = .ok (.aload_n 0, 1) := by decide +kernel
theorem dL_applies_3 : decode cL_applies 3 = .ok (.iload_n 1, 1) := by decide +kernel
theorem dL_applies_4 : decode cL_applies 4 = .ok (.iload_n 2, 1) := by decide +kernel
theorem dL_applies_5 : decode cL_applies 5 = .ok (.invokevirtual 91, 3) := by decide +kernel
theorem dL_applies_8 : decode cL_applies 8 = .ok (.ifCond .eq 7, 3) := by decide +kernel
theorem dL_applies_11 : decode cL_applies 11 = .ok (.lconst 1, 1) := by decide +kernel
theorem dL_applies_12 : decode cL_applies 12 = .ok (.goto 4, 3) := by decide +kernel
theorem dL_applies_15 : decode cL_applies 15 = .ok (.lconst 0, 1) := by decide +kernel
theorem dL_applies_16 : decode cL_applies 16 = .ok (.lastore, 1) := by decide +kernel
theorem dL_applies_17 : decode cL_applies 17 = .ok (.goto 7, 3) := by decide +kernel
theorem dL_applies_20 : decode cL_applies 20 = .ok (.astore 4, 2) := by decide +kernel
theorem dL_applies_22 : decode cL_applies 22 = .ok (.iconst 1, 1) := by decide +kernel
theorem dL_applies_23 : decode cL_applies 23 = .ok (.ireturn, 1) := by decide +kernel
theorem dL_applies_24 : decode cL_applies 24 = .ok (.iconst 0, 1) := by decide +kernel
theorem dL_applies_25 : decode cL_applies 25 = .ok (.ireturn, 1) := by decide +kernel
theorem dL_demands_0 : decode cL_demands 0 = .ok (.aload_n 3, 1) := by decide +kernel
theorem dL_demands_1 : decode cL_demands 1 = .ok (.iconst 0, 1) := by decide +kernel
theorem dL_demands_2 : decode cL_demands 2 = .ok (.aload_n 0, 1) := by decide +kernel
theorem dL_demands_3 : decode cL_demands 3 = .ok (.iload_n 1, 1) := by decide +kernel
theorem dL_demands_4 : decode cL_demands 4 = .ok (.iload_n 2, 1) := by decide +kernel
theorem dL_demands_5 : decode cL_demands 5 = .ok (.invokevirtual 94, 3) := by decide +kernel
theorem dL_demands_8 : decode cL_demands 8 = .ok (.i2l, 1) := by decide +kernel
theorem dL_demands_9 : decode cL_demands 9 = .ok (.lastore, 1) := by decide +kernel
theorem dL_demands_10 : decode cL_demands 10 = .ok (.goto 7, 3) := by decide +kernel
theorem dL_demands_13 : decode cL_demands 13 = .ok (.astore 4, 2) := by decide +kernel
theorem dL_demands_15 : decode cL_demands 15 = .ok (.iconst 1, 1) := by decide +kernel
theorem dL_demands_16 : decode cL_demands 16 = .ok (.ireturn, 1) := by decide +kernel
theorem dL_demands_17 : decode cL_demands 17 = .ok (.iconst 0, 1) := by decide +kernel
theorem dL_demands_18 : decode cL_demands 18 = .ok (.ireturn, 1) := by decide +kernel
theorem dL_way_0 : decode cL_way 0 = .ok (.aload_n 2, 1) := by decide +kernel
theorem dL_way_1 : decode cL_way 1 = .ok (.iconst 0, 1) := by decide +kernel
theorem dL_way_2 : decode cL_way 2 = .ok (.aload_n 0, 1) := by decide +kernel
theorem dL_way_3 : decode cL_way 3 = .ok (.iload_n 1, 1) := by decide +kernel
theorem dL_way_4 : decode cL_way 4 = .ok (.invokevirtual 98, 3) := by decide +kernel
theorem dL_way_7 : decode cL_way 7 = .ok (.i2l, 1) := by decide +kernel
theorem dL_way_8 : decode cL_way 8 = .ok (.lastore, 1) := by decide +kernel
theorem dL_way_9 : decode cL_way 9 = .ok (.goto 6, 3) := by decide +kernel
theorem dL_way_12 : decode cL_way 12 = .ok (.astore_n 3, 1) := by decide +kernel
theorem dL_way_13 : decode cL_way 13 = .ok (.iconst 1, 1) := by decide +kernel
theorem dL_way_14 : decode cL_way 14 = .ok (.ireturn, 1) := by decide +kernel
theorem dL_way_15 : decode cL_way 15 = .ok (.iconst 0, 1) := by decide +kernel
theorem dL_way_16 : decode cL_way 16 = .ok (.ireturn, 1) := by decide +kernel
theorem dL_wanting_0 : decode cL_wanting 0 = .ok (.aload_n 2, 1) := by decide +kernel
theorem dL_wanting_1 : decode cL_wanting 1 = .ok (.iconst 0, 1) := by decide +kernel
theorem dL_wanting_2 : decode cL_wanting 2 = .ok (.aload_n 0, 1) := by decide +kernel
theorem dL_wanting_3 : decode cL_wanting 3 = .ok (.iload_n 1, 1) := by decide +kernel
theorem dL_wanting_4 : decode cL_wanting 4 = .ok (.invokevirtual 101, 3) := by decide +kernel
theorem dL_wanting_7 : decode cL_wanting 7 = .ok (.i2l, 1) := by decide +kernel
theorem dL_wanting_8 : decode cL_wanting 8 = .ok (.lastore, 1) := by decide +kernel
theorem dL_wanting_9 : decode cL_wanting 9 = .ok (.goto 6, 3) := by decide +kernel
theorem dL_wanting_12 : decode cL_wanting 12 = .ok (.astore_n 3, 1) := by decide +kernel
theorem dL_wanting_13 : decode cL_wanting 13 = .ok (.iconst 1, 1) := by decide +kernel
theorem dL_wanting_14 : decode cL_wanting 14 = .ok (.ireturn, 1) := by decide +kernel
theorem dL_wanting_15 : decode cL_wanting 15 = .ok (.iconst 0, 1) := by decide +kernel
theorem dL_wanting_16 : decode cL_wanting 16 = .ok (.ireturn, 1) := by decide +kernel
theorem dL_productOf_0 : decode cL_productOf 0 = .ok (.aload_n 3, 1) := by decide +kernel
theorem dL_productOf_1 : decode cL_productOf 1 = .ok (.iconst 0, 1) := by decide +kernel
theorem dL_productOf_2 : decode cL_productOf 2 = .ok (.aload_n 0, 1) := by decide +kernel
theorem dL_productOf_3 : decode cL_productOf 3 = .ok (.iload_n 1, 1) := by decide +kernel
theorem dL_productOf_4 : decode cL_productOf 4 = .ok (.iload_n 2, 1) := by decide +kernel
theorem dL_productOf_5 : decode cL_productOf 5 = .ok (.invokevirtual 104, 3) := by decide +kernel
theorem dL_productOf_8 : decode cL_productOf 8 = .ok (.i2l, 1) := by decide +kernel
theorem dL_productOf_9 : decode cL_productOf 9 = .ok (.lastore, 1) := by decide +kernel
theorem dL_productOf_10 : decode cL_productOf 10 = .ok (.goto 11, 3) := by decide +kernel
theorem dL_productOf_13 : decode cL_productOf 13 = .ok (.astore 4, 2) := by decide +kernel
theorem dL_productOf_15 : decode cL_productOf 15 = .ok (.iconst 1, 1) := by decide +kernel
theorem dL_productOf_16 : decode cL_productOf 16 = .ok (.ireturn, 1) := by decide +kernel
theorem dL_productOf_17 : decode cL_productOf 17 = .ok (.astore 4, 2) := by decide +kernel
theorem dL_productOf_19 : decode cL_productOf 19 = .ok (.iconst 2, 1) := by decide +kernel
theorem dL_productOf_20 : decode cL_productOf 20 = .ok (.ireturn, 1) := by decide +kernel
theorem dL_productOf_21 : decode cL_productOf 21 = .ok (.iconst 0, 1) := by decide +kernel
theorem dL_productOf_22 : decode cL_productOf 22 = .ok (.ireturn, 1) := by decide +kernel
theorem dL_riskOf_0 : decode cL_riskOf 0 = .ok (.aload 4, 2) := by decide +kernel
theorem dL_riskOf_2 : decode cL_riskOf 2 = .ok (.iconst 0, 1) := by decide +kernel
theorem dL_riskOf_3 : decode cL_riskOf 3 = .ok (.aload_n 0, 1) := by decide +kernel
theorem dL_riskOf_4 : decode cL_riskOf 4 = .ok (.iload_n 1, 1) := by decide +kernel
theorem dL_riskOf_5 : decode cL_riskOf 5 = .ok (.iload_n 2, 1) := by decide +kernel
theorem dL_riskOf_6 : decode cL_riskOf 6 = .ok (.iload_n 3, 1) := by decide +kernel
theorem dL_riskOf_7 : decode cL_riskOf 7 = .ok (.invokevirtual 107, 3) := by decide +kernel
theorem dL_riskOf_10 : decode cL_riskOf 10 = .ok (.i2l, 1) := by decide +kernel
theorem dL_riskOf_11 : decode cL_riskOf 11 = .ok (.lastore, 1) := by decide +kernel
theorem dL_riskOf_12 : decode cL_riskOf 12 = .ok (.goto 7, 3) := by decide +kernel
theorem dL_riskOf_15 : decode cL_riskOf 15 = .ok (.astore 5, 2) := by decide +kernel
theorem dL_riskOf_17 : decode cL_riskOf 17 = .ok (.iconst 1, 1) := by decide +kernel
theorem dL_riskOf_18 : decode cL_riskOf 18 = .ok (.ireturn, 1) := by decide +kernel
theorem dL_riskOf_19 : decode cL_riskOf 19 = .ok (.iconst 0, 1) := by decide +kernel
theorem dL_riskOf_20 : decode cL_riskOf 20 = .ok (.ireturn, 1) := by decide +kernel
theorem dL_batchOf_0 : decode cL_batchOf 0 = .ok (.aload_n 3, 1) := by decide +kernel
theorem dL_batchOf_1 : decode cL_batchOf 1 = .ok (.iconst 0, 1) := by decide +kernel
theorem dL_batchOf_2 : decode cL_batchOf 2 = .ok (.aload_n 0, 1) := by decide +kernel
theorem dL_batchOf_3 : decode cL_batchOf 3 = .ok (.iload_n 1, 1) := by decide +kernel
theorem dL_batchOf_4 : decode cL_batchOf 4 = .ok (.iload_n 2, 1) := by decide +kernel
theorem dL_batchOf_5 : decode cL_batchOf 5 = .ok (.invokevirtual 110, 3) := by decide +kernel
theorem dL_batchOf_8 : decode cL_batchOf 8 = .ok (.i2l, 1) := by decide +kernel
theorem dL_batchOf_9 : decode cL_batchOf 9 = .ok (.lastore, 1) := by decide +kernel
theorem dL_batchOf_10 : decode cL_batchOf 10 = .ok (.goto 11, 3) := by decide +kernel
theorem dL_batchOf_13 : decode cL_batchOf 13 = .ok (.astore 4, 2) := by decide +kernel
theorem dL_batchOf_15 : decode cL_batchOf 15 = .ok (.iconst 1, 1) := by decide +kernel
theorem dL_batchOf_16 : decode cL_batchOf 16 = .ok (.ireturn, 1) := by decide +kernel
theorem dL_batchOf_17 : decode cL_batchOf 17 = .ok (.astore 4, 2) := by decide +kernel
theorem dL_batchOf_19 : decode cL_batchOf 19 = .ok (.iconst 2, 1) := by decide +kernel
theorem dL_batchOf_20 : decode cL_batchOf 20 = .ok (.ireturn, 1) := by decide +kernel
theorem dL_batchOf_21 : decode cL_batchOf 21 = .ok (.iconst 0, 1) := by decide +kernel
theorem dL_batchOf_22 : decode cL_batchOf 22 = .ok (.ireturn, 1) := by decide +kernel
end
section
theorem dL_wantingAnew_0 : decode cL_wantingAnew 0 = .ok (.aload_n 2, 1) := by decide +kernel
theorem dL_wantingAnew_1 : decode cL_wantingAnew 1 = .ok (.iconst 0, 1) := by decide +kernel
theorem dL_wantingAnew_2 : decode cL_wantingAnew 2 = .ok (.aload_n 0, 1) := by decide +kernel
theorem dL_wantingAnew_3 : decode cL_wantingAnew 3 = .ok (.iload_n 1, 1) := by decide +kernel
theorem dL_wantingAnew_4 : decode cL_wantingAnew 4 = .ok (.invokevirtual 113, 3) := by decide +kernel
theorem dL_wantingAnew_7 : decode cL_wantingAnew 7 = .ok (.i2l, 1) := by decide +kernel
theorem dL_wantingAnew_8 : decode cL_wantingAnew 8 = .ok (.lastore, 1) := by decide +kernel
theorem dL_wantingAnew_9 : decode cL_wantingAnew 9 = .ok (.goto 6, 3) := by decide +kernel
theorem dL_wantingAnew_12 : decode cL_wantingAnew 12 = .ok (.astore_n 3, 1) := by decide +kernel
theorem dL_wantingAnew_13 : decode cL_wantingAnew 13 = .ok (.iconst 1, 1) := by decide +kernel
theorem dL_wantingAnew_14 : decode cL_wantingAnew 14 = .ok (.ireturn, 1) := by decide +kernel
theorem dL_wantingAnew_15 : decode cL_wantingAnew 15 = .ok (.iconst 0, 1) := by decide +kernel
theorem dL_wantingAnew_16 : decode cL_wantingAnew 16 = .ok (.ireturn, 1) := by decide +kernel
theorem dL_law_0 : decode cL_law 0 = .ok (.new 8, 3) := by decide +kernel
theorem dL_law_3 : decode cL_law 3 = .ok (.dup, 1) := by decide +kernel
theorem dL_law_4 : decode cL_law 4 = .ok (.invokespecial 116, 3) := by decide +kernel
theorem dL_law_7 : decode cL_law 7 = .ok (.astore_n 1, 1) := by decide +kernel
theorem dL_law_8 : decode cL_law 8 = .ok (.new 117, 3) := by decide +kernel
theorem dL_law_11 : decode cL_law 11 = .ok (.dup, 1) := by decide +kernel
theorem dL_law_12 : decode cL_law 12 = .ok (.invokespecial 119, 3) := by decide +kernel
theorem dL_law_15 : decode cL_law 15 = .ok (.astore_n 2, 1) := by decide +kernel
theorem dL_law_16 : decode cL_law 16 = .ok (.iconst 1, 1) := by decide +kernel
theorem dL_law_17 : decode cL_law 17 = .ok (.newarray .long, 2) := by decide +kernel
theorem dL_law_19 : decode cL_law 19 = .ok (.astore_n 3, 1) := by decide +kernel
theorem dL_law_20 : decode cL_law 20 = .ok (.iconst 0, 1) := by decide +kernel
theorem dL_law_21 : decode cL_law 21 = .ok (.istore 4, 2) := by decide +kernel
theorem dL_law_23 : decode cL_law 23 = .ok (.iload 4, 2) := by decide +kernel
theorem dL_law_25 : decode cL_law 25 = .ok (.aload_n 0, 1) := by decide +kernel
theorem dL_law_26 : decode cL_law 26 = .ok (.arraylength, 1) := by decide +kernel
theorem dL_law_27 : decode cL_law 27 = .ok (.iconst 5, 1) := by decide +kernel
theorem dL_law_28 : decode cL_law 28 = .ok (.isub, 1) := by decide +kernel
theorem dL_law_29 : decode cL_law 29 = .ok (.if_icmp .gt 2446, 3) := by decide +kernel
theorem dL_law_32 : decode cL_law 32 = .ok (.aload_n 0, 1) := by decide +kernel
theorem dL_law_33 : decode cL_law 33 = .ok (.iload 4, 2) := by decide +kernel
theorem dL_law_35 : decode cL_law 35 = .ok (.iaload, 1) := by decide +kernel
theorem dL_law_36 : decode cL_law 36 = .ok (.bipush 31, 2) := by decide +kernel
theorem dL_law_38 : decode cL_law 38 = .ok (.iand, 1) := by decide +kernel
theorem dL_law_39 : decode cL_law 39 = .ok (.tableswitch 2430 0 31 #[141, 233, 308, 376, 444, 512, 568, 636, 728, 808, 876, 932, 988, 1079, 1159, 1227, 1318, 1386, 1454, 1546, 1626, 1706, 1802, 1858, 1871, 1946, 2030, 2086, 2142, 2210, 2306, 2374], 141) := by decide +kernel
theorem dL_law_180 : decode cL_law 180 = .ok (.aload_n 1, 1) := by decide +kernel
theorem dL_law_181 : decode cL_law 181 = .ok (.aload_n 0, 1) := by decide +kernel
theorem dL_law_182 : decode cL_law 182 = .ok (.iload 4, 2) := by decide +kernel
theorem dL_law_184 : decode cL_law 184 = .ok (.iconst 1, 1) := by decide +kernel
theorem dL_law_185 : decode cL_law 185 = .ok (.iadd, 1) := by decide +kernel
theorem dL_law_186 : decode cL_law 186 = .ok (.iaload, 1) := by decide +kernel
theorem dL_law_187 : decode cL_law 187 = .ok (.aload_n 0, 1) := by decide +kernel
theorem dL_law_188 : decode cL_law 188 = .ok (.iload 4, 2) := by decide +kernel
theorem dL_law_190 : decode cL_law 190 = .ok (.iconst 2, 1) := by decide +kernel
theorem dL_law_191 : decode cL_law 191 = .ok (.iadd, 1) := by decide +kernel
theorem dL_law_192 : decode cL_law 192 = .ok (.iaload, 1) := by decide +kernel
theorem dL_law_193 : decode cL_law 193 = .ok (.aload_n 0, 1) := by decide +kernel
theorem dL_law_194 : decode cL_law 194 = .ok (.iload 4, 2) := by decide +kernel
theorem dL_law_196 : decode cL_law 196 = .ok (.iconst 3, 1) := by decide +kernel
theorem dL_law_197 : decode cL_law 197 = .ok (.iadd, 1) := by decide +kernel
theorem dL_law_198 : decode cL_law 198 = .ok (.iaload, 1) := by decide +kernel
theorem dL_law_199 : decode cL_law 199 = .ok (.aload_n 0, 1) := by decide +kernel
theorem dL_law_200 : decode cL_law 200 = .ok (.iload 4, 2) := by decide +kernel
theorem dL_law_202 : decode cL_law 202 = .ok (.iconst 4, 1) := by decide +kernel
theorem dL_law_203 : decode cL_law 203 = .ok (.iadd, 1) := by decide +kernel
theorem dL_law_204 : decode cL_law 204 = .ok (.iaload, 1) := by decide +kernel
theorem dL_law_205 : decode cL_law 205 = .ok (.aload_n 3, 1) := by decide +kernel
theorem dL_law_206 : decode cL_law 206 = .ok (.invokestatic 120, 3) := by decide +kernel
theorem dL_law_209 : decode cL_law 209 = .ok (.istore 5, 2) := by decide +kernel
theorem dL_law_211 : decode cL_law 211 = .ok (.aload_n 2, 1) := by decide +kernel
theorem dL_law_212 : decode cL_law 212 = .ok (.aload_n 0, 1) := by decide +kernel
theorem dL_law_213 : decode cL_law 213 = .ok (.iload 4, 2) := by decide +kernel
theorem dL_law_215 : decode cL_law 215 = .ok (.iconst 1, 1) := by decide +kernel
theorem dL_law_216 : decode cL_law 216 = .ok (.iadd, 1) := by decide +kernel
theorem dL_law_217 : decode cL_law 217 = .ok (.iaload, 1) := by decide +kernel
theorem dL_law_218 : decode cL_law 218 = .ok (.aload_n 0, 1) := by decide +kernel
theorem dL_law_219 : decode cL_law 219 = .ok (.iload 4, 2) := by decide +kernel
theorem dL_law_221 : decode cL_law 221 = .ok (.iconst 2, 1) := by decide +kernel
theorem dL_law_222 : decode cL_law 222 = .ok (.iadd, 1) := by decide +kernel
theorem dL_law_223 : decode cL_law 223 = .ok (.iaload, 1) := by decide +kernel
theorem dL_law_224 : decode cL_law 224 = .ok (.aload_n 0, 1) := by decide +kernel
theorem dL_law_225 : decode cL_law 225 = .ok (.iload 4, 2) := by decide +kernel
theorem dL_law_227 : decode cL_law 227 = .ok (.iconst 3, 1) := by decide +kernel
theorem dL_law_228 : decode cL_law 228 = .ok (.iadd, 1) := by decide +kernel
theorem dL_law_229 : decode cL_law 229 = .ok (.iaload, 1) := by decide +kernel
theorem dL_law_230 : decode cL_law 230 = .ok (.aload_n 0, 1) := by decide +kernel
theorem dL_law_231 : decode cL_law 231 = .ok (.iload 4, 2) := by decide +kernel
theorem dL_law_233 : decode cL_law 233 = .ok (.iconst 4, 1) := by decide +kernel
theorem dL_law_234 : decode cL_law 234 = .ok (.iadd, 1) := by decide +kernel
theorem dL_law_235 : decode cL_law 235 = .ok (.iaload, 1) := by decide +kernel
theorem dL_law_236 : decode cL_law 236 = .ok (.invokevirtual 125, 3) := by decide +kernel
theorem dL_law_239 : decode cL_law 239 = .ok (.istore 6, 2) := by decide +kernel
theorem dL_law_241 : decode cL_law 241 = .ok (.aload_n 2, 1) := by decide +kernel
theorem dL_law_242 : decode cL_law 242 = .ok (.invokevirtual 126, 3) := by decide +kernel
theorem dL_law_245 : decode cL_law 245 = .ok (.iload 5, 2) := by decide +kernel
theorem dL_law_247 : decode cL_law 247 = .ok (.if_icmp .eq 5, 3) := by decide +kernel
theorem dL_law_250 : decode cL_law 250 = .ok (.iconst 0, 1) := by decide +kernel
theorem dL_law_251 : decode cL_law 251 = .ok (.ireturn, 1) := by decide +kernel
theorem dL_law_252 : decode cL_law 252 = .ok (.iload 5, 2) := by decide +kernel
theorem dL_law_254 : decode cL_law 254 = .ok (.ifCond .ne 15, 3) := by decide +kernel
theorem dL_law_257 : decode cL_law 257 = .ok (.aload_n 3, 1) := by decide +kernel
theorem dL_law_258 : decode cL_law 258 = .ok (.iconst 0, 1) := by decide +kernel
theorem dL_law_259 : decode cL_law 259 = .ok (.laload, 1) := by decide +kernel
theorem dL_law_260 : decode cL_law 260 = .ok (.iload 6, 2) := by decide +kernel
theorem dL_law_262 : decode cL_law 262 = .ok (.i2l, 1) := by decide +kernel
theorem dL_law_263 : decode cL_law 263 = .ok (.lcmp, 1) := by decide +kernel
theorem dL_law_264 : decode cL_law 264 = .ok (.ifCond .eq 5, 3) := by decide +kernel
theorem dL_law_267 : decode cL_law 267 = .ok (.iconst 0, 1) := by decide +kernel
theorem dL_law_268 : decode cL_law 268 = .ok (.ireturn, 1) := by decide +kernel
theorem dL_law_269 : decode cL_law 269 = .ok (.goto 2200, 3) := by decide +kernel
theorem dL_law_272 : decode cL_law 272 = .ok (.aload_n 1, 1) := by decide +kernel
theorem dL_law_273 : decode cL_law 273 = .ok (.aload_n 0, 1) := by decide +kernel
theorem dL_law_274 : decode cL_law 274 = .ok (.iload 4, 2) := by decide +kernel
theorem dL_law_276 : decode cL_law 276 = .ok (.iconst 1, 1) := by decide +kernel
theorem dL_law_277 : decode cL_law 277 = .ok (.iadd, 1) := by decide +kernel
theorem dL_law_278 : decode cL_law 278 = .ok (.iaload, 1) := by decide +kernel
theorem dL_law_279 : decode cL_law 279 = .ok (.aload_n 0, 1) := by decide +kernel
theorem dL_law_280 : decode cL_law 280 = .ok (.iload 4, 2) := by decide +kernel
theorem dL_law_282 : decode cL_law 282 = .ok (.iconst 2, 1) := by decide +kernel
theorem dL_law_283 : decode cL_law 283 = .ok (.iadd, 1) := by decide +kernel
theorem dL_law_284 : decode cL_law 284 = .ok (.iaload, 1) := by decide +kernel
theorem dL_law_285 : decode cL_law 285 = .ok (.aload_n 3, 1) := by decide +kernel
theorem dL_law_286 : decode cL_law 286 = .ok (.invokestatic 130, 3) := by decide +kernel
theorem dL_law_289 : decode cL_law 289 = .ok (.istore 5, 2) := by decide +kernel
theorem dL_law_291 : decode cL_law 291 = .ok (.aload_n 2, 1) := by decide +kernel
theorem dL_law_292 : decode cL_law 292 = .ok (.aload_n 0, 1) := by decide +kernel
theorem dL_law_293 : decode cL_law 293 = .ok (.iload 4, 2) := by decide +kernel
theorem dL_law_295 : decode cL_law 295 = .ok (.iconst 1, 1) := by decide +kernel
theorem dL_law_296 : decode cL_law 296 = .ok (.iadd, 1) := by decide +kernel
theorem dL_law_297 : decode cL_law 297 = .ok (.iaload, 1) := by decide +kernel
theorem dL_law_298 : decode cL_law 298 = .ok (.aload_n 0, 1) := by decide +kernel
theorem dL_law_299 : decode cL_law 299 = .ok (.iload 4, 2) := by decide +kernel
theorem dL_law_301 : decode cL_law 301 = .ok (.iconst 2, 1) := by decide +kernel
theorem dL_law_302 : decode cL_law 302 = .ok (.iadd, 1) := by decide +kernel
theorem dL_law_303 : decode cL_law 303 = .ok (.iaload, 1) := by decide +kernel
theorem dL_law_304 : decode cL_law 304 = .ok (.invokevirtual 133, 3) := by decide +kernel
theorem dL_law_307 : decode cL_law 307 = .ok (.istore 6, 2) := by decide +kernel
theorem dL_law_309 : decode cL_law 309 = .ok (.aload_n 2, 1) := by decide +kernel
theorem dL_law_310 : decode cL_law 310 = .ok (.invokevirtual 126, 3) := by decide +kernel
theorem dL_law_313 : decode cL_law 313 = .ok (.iload 5, 2) := by decide +kernel
theorem dL_law_315 : decode cL_law 315 = .ok (.if_icmp .eq 5, 3) := by decide +kernel
theorem dL_law_318 : decode cL_law 318 = .ok (.iconst 0, 1) := by decide +kernel
theorem dL_law_319 : decode cL_law 319 = .ok (.ireturn, 1) := by decide +kernel
theorem dL_law_320 : decode cL_law 320 = .ok (.iload 5, 2) := by decide +kernel
theorem dL_law_322 : decode cL_law 322 = .ok (.ifCond .ne 22, 3) := by decide +kernel
theorem dL_law_325 : decode cL_law 325 = .ok (.aload_n 3, 1) := by decide +kernel
theorem dL_law_326 : decode cL_law 326 = .ok (.iconst 0, 1) := by decide +kernel
theorem dL_law_327 : decode cL_law 327 = .ok (.laload, 1) := by decide +kernel
theorem dL_law_328 : decode cL_law 328 = .ok (.iload 6, 2) := by decide +kernel
theorem dL_law_330 : decode cL_law 330 = .ok (.ifCond .eq 7, 3) := by decide +kernel
theorem dL_law_333 : decode cL_law 333 = .ok (.lconst 1, 1) := by decide +kernel
theorem dL_law_334 : decode cL_law 334 = .ok (.goto 4, 3) := by decide +kernel
theorem dL_law_337 : decode cL_law 337 = .ok (.lconst 0, 1) := by decide +kernel
theorem dL_law_338 : decode cL_law 338 = .ok (.lcmp, 1) := by decide +kernel
theorem dL_law_339 : decode cL_law 339 = .ok (.ifCond .eq 5, 3) := by decide +kernel
theorem dL_law_342 : decode cL_law 342 = .ok (.iconst 0, 1) := by decide +kernel
theorem dL_law_343 : decode cL_law 343 = .ok (.ireturn, 1) := by decide +kernel
theorem dL_law_344 : decode cL_law 344 = .ok (.goto 2125, 3) := by decide +kernel
theorem dL_law_347 : decode cL_law 347 = .ok (.aload_n 1, 1) := by decide +kernel
theorem dL_law_348 : decode cL_law 348 = .ok (.aload_n 0, 1) := by decide +kernel
theorem dL_law_349 : decode cL_law 349 = .ok (.iload 4, 2) := by decide +kernel
theorem dL_law_351 : decode cL_law 351 = .ok (.iconst 1, 1) := by decide +kernel
theorem dL_law_352 : decode cL_law 352 = .ok (.iadd, 1) := by decide +kernel
theorem dL_law_353 : decode cL_law 353 = .ok (.iaload, 1) := by decide +kernel
theorem dL_law_354 : decode cL_law 354 = .ok (.aload_n 0, 1) := by decide +kernel
theorem dL_law_355 : decode cL_law 355 = .ok (.iload 4, 2) := by decide +kernel
theorem dL_law_357 : decode cL_law 357 = .ok (.iconst 2, 1) := by decide +kernel
theorem dL_law_358 : decode cL_law 358 = .ok (.iadd, 1) := by decide +kernel
theorem dL_law_359 : decode cL_law 359 = .ok (.iaload, 1) := by decide +kernel
theorem dL_law_360 : decode cL_law 360 = .ok (.aload_n 3, 1) := by decide +kernel
theorem dL_law_361 : decode cL_law 361 = .ok (.invokestatic 134, 3) := by decide +kernel
theorem dL_law_364 : decode cL_law 364 = .ok (.istore 5, 2) := by decide +kernel
theorem dL_law_366 : decode cL_law 366 = .ok (.aload_n 2, 1) := by decide +kernel
theorem dL_law_367 : decode cL_law 367 = .ok (.aload_n 0, 1) := by decide +kernel
theorem dL_law_368 : decode cL_law 368 = .ok (.iload 4, 2) := by decide +kernel
theorem dL_law_370 : decode cL_law 370 = .ok (.iconst 1, 1) := by decide +kernel
theorem dL_law_371 : decode cL_law 371 = .ok (.iadd, 1) := by decide +kernel
theorem dL_law_372 : decode cL_law 372 = .ok (.iaload, 1) := by decide +kernel
theorem dL_law_373 : decode cL_law 373 = .ok (.aload_n 0, 1) := by decide +kernel
theorem dL_law_374 : decode cL_law 374 = .ok (.iload 4, 2) := by decide +kernel
theorem dL_law_376 : decode cL_law 376 = .ok (.iconst 2, 1) := by decide +kernel
theorem dL_law_377 : decode cL_law 377 = .ok (.iadd, 1) := by decide +kernel
theorem dL_law_378 : decode cL_law 378 = .ok (.iaload, 1) := by decide +kernel
theorem dL_law_379 : decode cL_law 379 = .ok (.invokevirtual 136, 3) := by decide +kernel
theorem dL_law_382 : decode cL_law 382 = .ok (.istore 6, 2) := by decide +kernel
theorem dL_law_384 : decode cL_law 384 = .ok (.aload_n 2, 1) := by decide +kernel
theorem dL_law_385 : decode cL_law 385 = .ok (.invokevirtual 126, 3) := by decide +kernel
theorem dL_law_388 : decode cL_law 388 = .ok (.iload 5, 2) := by decide +kernel
theorem dL_law_390 : decode cL_law 390 = .ok (.if_icmp .eq 5, 3) := by decide +kernel
theorem dL_law_393 : decode cL_law 393 = .ok (.iconst 0, 1) := by decide +kernel
theorem dL_law_394 : decode cL_law 394 = .ok (.ireturn, 1) := by decide +kernel
theorem dL_law_395 : decode cL_law 395 = .ok (.iload 5, 2) := by decide +kernel
theorem dL_law_397 : decode cL_law 397 = .ok (.ifCond .ne 15, 3) := by decide +kernel
theorem dL_law_400 : decode cL_law 400 = .ok (.aload_n 3, 1) := by decide +kernel
theorem dL_law_401 : decode cL_law 401 = .ok (.iconst 0, 1) := by decide +kernel
theorem dL_law_402 : decode cL_law 402 = .ok (.laload, 1) := by decide +kernel
theorem dL_law_403 : decode cL_law 403 = .ok (.iload 6, 2) := by decide +kernel
theorem dL_law_405 : decode cL_law 405 = .ok (.i2l, 1) := by decide +kernel
theorem dL_law_406 : decode cL_law 406 = .ok (.lcmp, 1) := by decide +kernel
theorem dL_law_407 : decode cL_law 407 = .ok (.ifCond .eq 5, 3) := by decide +kernel
theorem dL_law_410 : decode cL_law 410 = .ok (.iconst 0, 1) := by decide +kernel
theorem dL_law_411 : decode cL_law 411 = .ok (.ireturn, 1) := by decide +kernel
theorem dL_law_412 : decode cL_law 412 = .ok (.goto 2057, 3) := by decide +kernel
theorem dL_law_415 : decode cL_law 415 = .ok (.aload_n 1, 1) := by decide +kernel
theorem dL_law_416 : decode cL_law 416 = .ok (.aload_n 0, 1) := by decide +kernel
theorem dL_law_417 : decode cL_law 417 = .ok (.iload 4, 2) := by decide +kernel
theorem dL_law_419 : decode cL_law 419 = .ok (.iconst 1, 1) := by decide +kernel
theorem dL_law_420 : decode cL_law 420 = .ok (.iadd, 1) := by decide +kernel
theorem dL_law_421 : decode cL_law 421 = .ok (.iaload, 1) := by decide +kernel
theorem dL_law_422 : decode cL_law 422 = .ok (.aload_n 0, 1) := by decide +kernel
theorem dL_law_423 : decode cL_law 423 = .ok (.iload 4, 2) := by decide +kernel
theorem dL_law_425 : decode cL_law 425 = .ok (.iconst 2, 1) := by decide +kernel
theorem dL_law_426 : decode cL_law 426 = .ok (.iadd, 1) := by decide +kernel
theorem dL_law_427 : decode cL_law 427 = .ok (.iaload, 1) := by decide +kernel
theorem dL_law_428 : decode cL_law 428 = .ok (.aload_n 3, 1) := by decide +kernel
theorem dL_law_429 : decode cL_law 429 = .ok (.invokestatic 137, 3) := by decide +kernel
theorem dL_law_432 : decode cL_law 432 = .ok (.istore 5, 2) := by decide +kernel
theorem dL_law_434 : decode cL_law 434 = .ok (.aload_n 2, 1) := by decide +kernel
theorem dL_law_435 : decode cL_law 435 = .ok (.aload_n 0, 1) := by decide +kernel
theorem dL_law_436 : decode cL_law 436 = .ok (.iload 4, 2) := by decide +kernel
theorem dL_law_438 : decode cL_law 438 = .ok (.iconst 1, 1) := by decide +kernel
theorem dL_law_439 : decode cL_law 439 = .ok (.iadd, 1) := by decide +kernel
theorem dL_law_440 : decode cL_law 440 = .ok (.iaload, 1) := by decide +kernel
theorem dL_law_441 : decode cL_law 441 = .ok (.aload_n 0, 1) := by decide +kernel
theorem dL_law_442 : decode cL_law 442 = .ok (.iload 4, 2) := by decide +kernel
theorem dL_law_444 : decode cL_law 444 = .ok (.iconst 2, 1) := by decide +kernel
theorem dL_law_445 : decode cL_law 445 = .ok (.iadd, 1) := by decide +kernel
theorem dL_law_446 : decode cL_law 446 = .ok (.iaload, 1) := by decide +kernel
theorem dL_law_447 : decode cL_law 447 = .ok (.invokevirtual 139, 3) := by decide +kernel
theorem dL_law_450 : decode cL_law 450 = .ok (.istore 6, 2) := by decide +kernel
theorem dL_law_452 : decode cL_law 452 = .ok (.aload_n 2, 1) := by decide +kernel
theorem dL_law_453 : decode cL_law 453 = .ok (.invokevirtual 126, 3) := by decide +kernel
theorem dL_law_456 : decode cL_law 456 = .ok (.iload 5, 2) := by decide +kernel
theorem dL_law_458 : decode cL_law 458 = .ok (.if_icmp .eq 5, 3) := by decide +kernel
theorem dL_law_461 : decode cL_law 461 = .ok (.iconst 0, 1) := by decide +kernel
theorem dL_law_462 : decode cL_law 462 = .ok (.ireturn, 1) := by decide +kernel
theorem dL_law_463 : decode cL_law 463 = .ok (.iload 5, 2) := by decide +kernel
theorem dL_law_465 : decode cL_law 465 = .ok (.ifCond .ne 15, 3) := by decide +kernel
theorem dL_law_468 : decode cL_law 468 = .ok (.aload_n 3, 1) := by decide +kernel
theorem dL_law_469 : decode cL_law 469 = .ok (.iconst 0, 1) := by decide +kernel
theorem dL_law_470 : decode cL_law 470 = .ok (.laload, 1) := by decide +kernel
theorem dL_law_471 : decode cL_law 471 = .ok (.iload 6, 2) := by decide +kernel
theorem dL_law_473 : decode cL_law 473 = .ok (.i2l, 1) := by decide +kernel
theorem dL_law_474 : decode cL_law 474 = .ok (.lcmp, 1) := by decide +kernel
theorem dL_law_475 : decode cL_law 475 = .ok (.ifCond .eq 5, 3) := by decide +kernel
theorem dL_law_478 : decode cL_law 478 = .ok (.iconst 0, 1) := by decide +kernel
theorem dL_law_479 : decode cL_law 479 = .ok (.ireturn, 1) := by decide +kernel
theorem dL_law_480 : decode cL_law 480 = .ok (.goto 1989, 3) := by decide +kernel
theorem dL_law_483 : decode cL_law 483 = .ok (.aload_n 1, 1) := by decide +kernel
theorem dL_law_484 : decode cL_law 484 = .ok (.aload_n 0, 1) := by decide +kernel
theorem dL_law_485 : decode cL_law 485 = .ok (.iload 4, 2) := by decide +kernel
theorem dL_law_487 : decode cL_law 487 = .ok (.iconst 1, 1) := by decide +kernel
theorem dL_law_488 : decode cL_law 488 = .ok (.iadd, 1) := by decide +kernel
theorem dL_law_489 : decode cL_law 489 = .ok (.iaload, 1) := by decide +kernel
theorem dL_law_490 : decode cL_law 490 = .ok (.aload_n 0, 1) := by decide +kernel
theorem dL_law_491 : decode cL_law 491 = .ok (.iload 4, 2) := by decide +kernel
theorem dL_law_493 : decode cL_law 493 = .ok (.iconst 2, 1) := by decide +kernel
theorem dL_law_494 : decode cL_law 494 = .ok (.iadd, 1) := by decide +kernel
theorem dL_law_495 : decode cL_law 495 = .ok (.iaload, 1) := by decide +kernel
theorem dL_law_496 : decode cL_law 496 = .ok (.aload_n 3, 1) := by decide +kernel
theorem dL_law_497 : decode cL_law 497 = .ok (.invokestatic 140, 3) := by decide +kernel
theorem dL_law_500 : decode cL_law 500 = .ok (.istore 5, 2) := by decide +kernel
theorem dL_law_502 : decode cL_law 502 = .ok (.aload_n 2, 1) := by decide +kernel
theorem dL_law_503 : decode cL_law 503 = .ok (.aload_n 0, 1) := by decide +kernel
theorem dL_law_504 : decode cL_law 504 = .ok (.iload 4, 2) := by decide +kernel
theorem dL_law_506 : decode cL_law 506 = .ok (.iconst 1, 1) := by decide +kernel
theorem dL_law_507 : decode cL_law 507 = .ok (.iadd, 1) := by decide +kernel
theorem dL_law_508 : decode cL_law 508 = .ok (.iaload, 1) := by decide +kernel
theorem dL_law_509 : decode cL_law 509 = .ok (.aload_n 0, 1) := by decide +kernel
theorem dL_law_510 : decode cL_law 510 = .ok (.iload 4, 2) := by decide +kernel
theorem dL_law_512 : decode cL_law 512 = .ok (.iconst 2, 1) := by decide +kernel
theorem dL_law_513 : decode cL_law 513 = .ok (.iadd, 1) := by decide +kernel
theorem dL_law_514 : decode cL_law 514 = .ok (.iaload, 1) := by decide +kernel
theorem dL_law_515 : decode cL_law 515 = .ok (.invokevirtual 142, 3) := by decide +kernel
theorem dL_law_518 : decode cL_law 518 = .ok (.istore 6, 2) := by decide +kernel
theorem dL_law_520 : decode cL_law 520 = .ok (.aload_n 2, 1) := by decide +kernel
theorem dL_law_521 : decode cL_law 521 = .ok (.invokevirtual 126, 3) := by decide +kernel
theorem dL_law_524 : decode cL_law 524 = .ok (.iload 5, 2) := by decide +kernel
theorem dL_law_526 : decode cL_law 526 = .ok (.if_icmp .eq 5, 3) := by decide +kernel
theorem dL_law_529 : decode cL_law 529 = .ok (.iconst 0, 1) := by decide +kernel
theorem dL_law_530 : decode cL_law 530 = .ok (.ireturn, 1) := by decide +kernel
theorem dL_law_531 : decode cL_law 531 = .ok (.iload 5, 2) := by decide +kernel
theorem dL_law_533 : decode cL_law 533 = .ok (.ifCond .ne 15, 3) := by decide +kernel
theorem dL_law_536 : decode cL_law 536 = .ok (.aload_n 3, 1) := by decide +kernel
theorem dL_law_537 : decode cL_law 537 = .ok (.iconst 0, 1) := by decide +kernel
theorem dL_law_538 : decode cL_law 538 = .ok (.laload, 1) := by decide +kernel
theorem dL_law_539 : decode cL_law 539 = .ok (.iload 6, 2) := by decide +kernel
theorem dL_law_541 : decode cL_law 541 = .ok (.i2l, 1) := by decide +kernel
theorem dL_law_542 : decode cL_law 542 = .ok (.lcmp, 1) := by decide +kernel
theorem dL_law_543 : decode cL_law 543 = .ok (.ifCond .eq 5, 3) := by decide +kernel
theorem dL_law_546 : decode cL_law 546 = .ok (.iconst 0, 1) := by decide +kernel
theorem dL_law_547 : decode cL_law 547 = .ok (.ireturn, 1) := by decide +kernel
theorem dL_law_548 : decode cL_law 548 = .ok (.goto 1921, 3) := by decide +kernel
theorem dL_law_551 : decode cL_law 551 = .ok (.aload_n 1, 1) := by decide +kernel
theorem dL_law_552 : decode cL_law 552 = .ok (.aload_n 0, 1) := by decide +kernel
theorem dL_law_553 : decode cL_law 553 = .ok (.iload 4, 2) := by decide +kernel
theorem dL_law_555 : decode cL_law 555 = .ok (.iconst 1, 1) := by decide +kernel
theorem dL_law_556 : decode cL_law 556 = .ok (.iadd, 1) := by decide +kernel
theorem dL_law_557 : decode cL_law 557 = .ok (.iaload, 1) := by decide +kernel
theorem dL_law_558 : decode cL_law 558 = .ok (.aload_n 3, 1) := by decide +kernel
theorem dL_law_559 : decode cL_law 559 = .ok (.invokestatic 143, 3) := by decide +kernel
theorem dL_law_562 : decode cL_law 562 = .ok (.istore 5, 2) := by decide +kernel
theorem dL_law_564 : decode cL_law 564 = .ok (.aload_n 2, 1) := by decide +kernel
theorem dL_law_565 : decode cL_law 565 = .ok (.aload_n 0, 1) := by decide +kernel
theorem dL_law_566 : decode cL_law 566 = .ok (.iload 4, 2) := by decide +kernel
theorem dL_law_568 : decode cL_law 568 = .ok (.iconst 1, 1) := by decide +kernel
theorem dL_law_569 : decode cL_law 569 = .ok (.iadd, 1) := by decide +kernel
theorem dL_law_570 : decode cL_law 570 = .ok (.iaload, 1) := by decide +kernel
theorem dL_law_571 : decode cL_law 571 = .ok (.invokevirtual 146, 3) := by decide +kernel
theorem dL_law_574 : decode cL_law 574 = .ok (.istore 6, 2) := by decide +kernel
theorem dL_law_576 : decode cL_law 576 = .ok (.aload_n 2, 1) := by decide +kernel
theorem dL_law_577 : decode cL_law 577 = .ok (.invokevirtual 126, 3) := by decide +kernel
theorem dL_law_580 : decode cL_law 580 = .ok (.iload 5, 2) := by decide +kernel
theorem dL_law_582 : decode cL_law 582 = .ok (.if_icmp .eq 5, 3) := by decide +kernel
theorem dL_law_585 : decode cL_law 585 = .ok (.iconst 0, 1) := by decide +kernel
theorem dL_law_586 : decode cL_law 586 = .ok (.ireturn, 1) := by decide +kernel
theorem dL_law_587 : decode cL_law 587 = .ok (.iload 5, 2) := by decide +kernel
theorem dL_law_589 : decode cL_law 589 = .ok (.ifCond .ne 15, 3) := by decide +kernel
theorem dL_law_592 : decode cL_law 592 = .ok (.aload_n 3, 1) := by decide +kernel
theorem dL_law_593 : decode cL_law 593 = .ok (.iconst 0, 1) := by decide +kernel
theorem dL_law_594 : decode cL_law 594 = .ok (.laload, 1) := by decide +kernel
theorem dL_law_595 : decode cL_law 595 = .ok (.iload 6, 2) := by decide +kernel
theorem dL_law_597 : decode cL_law 597 = .ok (.i2l, 1) := by decide +kernel
theorem dL_law_598 : decode cL_law 598 = .ok (.lcmp, 1) := by decide +kernel
theorem dL_law_599 : decode cL_law 599 = .ok (.ifCond .eq 5, 3) := by decide +kernel
theorem dL_law_602 : decode cL_law 602 = .ok (.iconst 0, 1) := by decide +kernel
theorem dL_law_603 : decode cL_law 603 = .ok (.ireturn, 1) := by decide +kernel
theorem dL_law_604 : decode cL_law 604 = .ok (.goto 1865, 3) := by decide +kernel
theorem dL_law_607 : decode cL_law 607 = .ok (.aload_n 1, 1) := by decide +kernel
theorem dL_law_608 : decode cL_law 608 = .ok (.aload_n 0, 1) := by decide +kernel
theorem dL_law_609 : decode cL_law 609 = .ok (.iload 4, 2) := by decide +kernel
theorem dL_law_611 : decode cL_law 611 = .ok (.iconst 1, 1) := by decide +kernel
theorem dL_law_612 : decode cL_law 612 = .ok (.iadd, 1) := by decide +kernel
theorem dL_law_613 : decode cL_law 613 = .ok (.iaload, 1) := by decide +kernel
theorem dL_law_614 : decode cL_law 614 = .ok (.aload_n 0, 1) := by decide +kernel
theorem dL_law_615 : decode cL_law 615 = .ok (.iload 4, 2) := by decide +kernel
theorem dL_law_617 : decode cL_law 617 = .ok (.iconst 2, 1) := by decide +kernel
theorem dL_law_618 : decode cL_law 618 = .ok (.iadd, 1) := by decide +kernel
theorem dL_law_619 : decode cL_law 619 = .ok (.iaload, 1) := by decide +kernel
theorem dL_law_620 : decode cL_law 620 = .ok (.aload_n 3, 1) := by decide +kernel
theorem dL_law_621 : decode cL_law 621 = .ok (.invokestatic 147, 3) := by decide +kernel
theorem dL_law_624 : decode cL_law 624 = .ok (.istore 5, 2) := by decide +kernel
theorem dL_law_626 : decode cL_law 626 = .ok (.aload_n 2, 1) := by decide +kernel
theorem dL_law_627 : decode cL_law 627 = .ok (.aload_n 0, 1) := by decide +kernel
theorem dL_law_628 : decode cL_law 628 = .ok (.iload 4, 2) := by decide +kernel
theorem dL_law_630 : decode cL_law 630 = .ok (.iconst 1, 1) := by decide +kernel
theorem dL_law_631 : decode cL_law 631 = .ok (.iadd, 1) := by decide +kernel
theorem dL_law_632 : decode cL_law 632 = .ok (.iaload, 1) := by decide +kernel
theorem dL_law_633 : decode cL_law 633 = .ok (.aload_n 0, 1) := by decide +kernel
theorem dL_law_634 : decode cL_law 634 = .ok (.iload 4, 2) := by decide +kernel
theorem dL_law_636 : decode cL_law 636 = .ok (.iconst 2, 1) := by decide +kernel
theorem dL_law_637 : decode cL_law 637 = .ok (.iadd, 1) := by decide +kernel
theorem dL_law_638 : decode cL_law 638 = .ok (.iaload, 1) := by decide +kernel
theorem dL_law_639 : decode cL_law 639 = .ok (.invokevirtual 149, 3) := by decide +kernel
theorem dL_law_642 : decode cL_law 642 = .ok (.istore 6, 2) := by decide +kernel
theorem dL_law_644 : decode cL_law 644 = .ok (.aload_n 2, 1) := by decide +kernel
theorem dL_law_645 : decode cL_law 645 = .ok (.invokevirtual 126, 3) := by decide +kernel
theorem dL_law_648 : decode cL_law 648 = .ok (.iload 5, 2) := by decide +kernel
theorem dL_law_650 : decode cL_law 650 = .ok (.if_icmp .eq 5, 3) := by decide +kernel
theorem dL_law_653 : decode cL_law 653 = .ok (.iconst 0, 1) := by decide +kernel
theorem dL_law_654 : decode cL_law 654 = .ok (.ireturn, 1) := by decide +kernel
theorem dL_law_655 : decode cL_law 655 = .ok (.iload 5, 2) := by decide +kernel
theorem dL_law_657 : decode cL_law 657 = .ok (.ifCond .ne 15, 3) := by decide +kernel
theorem dL_law_660 : decode cL_law 660 = .ok (.aload_n 3, 1) := by decide +kernel
theorem dL_law_661 : decode cL_law 661 = .ok (.iconst 0, 1) := by decide +kernel
theorem dL_law_662 : decode cL_law 662 = .ok (.laload, 1) := by decide +kernel
theorem dL_law_663 : decode cL_law 663 = .ok (.iload 6, 2) := by decide +kernel
theorem dL_law_665 : decode cL_law 665 = .ok (.i2l, 1) := by decide +kernel
theorem dL_law_666 : decode cL_law 666 = .ok (.lcmp, 1) := by decide +kernel
theorem dL_law_667 : decode cL_law 667 = .ok (.ifCond .eq 5, 3) := by decide +kernel
theorem dL_law_670 : decode cL_law 670 = .ok (.iconst 0, 1) := by decide +kernel
theorem dL_law_671 : decode cL_law 671 = .ok (.ireturn, 1) := by decide +kernel
theorem dL_law_672 : decode cL_law 672 = .ok (.goto 1797, 3) := by decide +kernel
theorem dL_law_675 : decode cL_law 675 = .ok (.aload_n 1, 1) := by decide +kernel
theorem dL_law_676 : decode cL_law 676 = .ok (.aload_n 0, 1) := by decide +kernel
theorem dL_law_677 : decode cL_law 677 = .ok (.iload 4, 2) := by decide +kernel
theorem dL_law_679 : decode cL_law 679 = .ok (.iconst 1, 1) := by decide +kernel
theorem dL_law_680 : decode cL_law 680 = .ok (.iadd, 1) := by decide +kernel
theorem dL_law_681 : decode cL_law 681 = .ok (.iaload, 1) := by decide +kernel
theorem dL_law_682 : decode cL_law 682 = .ok (.aload_n 0, 1) := by decide +kernel
theorem dL_law_683 : decode cL_law 683 = .ok (.iload 4, 2) := by decide +kernel
theorem dL_law_685 : decode cL_law 685 = .ok (.iconst 2, 1) := by decide +kernel
theorem dL_law_686 : decode cL_law 686 = .ok (.iadd, 1) := by decide +kernel
theorem dL_law_687 : decode cL_law 687 = .ok (.iaload, 1) := by decide +kernel
theorem dL_law_688 : decode cL_law 688 = .ok (.aload_n 0, 1) := by decide +kernel
theorem dL_law_689 : decode cL_law 689 = .ok (.iload 4, 2) := by decide +kernel
theorem dL_law_691 : decode cL_law 691 = .ok (.iconst 3, 1) := by decide +kernel
theorem dL_law_692 : decode cL_law 692 = .ok (.iadd, 1) := by decide +kernel
theorem dL_law_693 : decode cL_law 693 = .ok (.iaload, 1) := by decide +kernel
theorem dL_law_694 : decode cL_law 694 = .ok (.aload_n 0, 1) := by decide +kernel
theorem dL_law_695 : decode cL_law 695 = .ok (.iload 4, 2) := by decide +kernel
theorem dL_law_697 : decode cL_law 697 = .ok (.iconst 4, 1) := by decide +kernel
theorem dL_law_698 : decode cL_law 698 = .ok (.iadd, 1) := by decide +kernel
theorem dL_law_699 : decode cL_law 699 = .ok (.iaload, 1) := by decide +kernel
theorem dL_law_700 : decode cL_law 700 = .ok (.aload_n 3, 1) := by decide +kernel
theorem dL_law_701 : decode cL_law 701 = .ok (.invokestatic 150, 3) := by decide +kernel
theorem dL_law_704 : decode cL_law 704 = .ok (.istore 5, 2) := by decide +kernel
theorem dL_law_706 : decode cL_law 706 = .ok (.aload_n 2, 1) := by decide +kernel
theorem dL_law_707 : decode cL_law 707 = .ok (.aload_n 0, 1) := by decide +kernel
theorem dL_law_708 : decode cL_law 708 = .ok (.iload 4, 2) := by decide +kernel
theorem dL_law_710 : decode cL_law 710 = .ok (.iconst 1, 1) := by decide +kernel
theorem dL_law_711 : decode cL_law 711 = .ok (.iadd, 1) := by decide +kernel
theorem dL_law_712 : decode cL_law 712 = .ok (.iaload, 1) := by decide +kernel
theorem dL_law_713 : decode cL_law 713 = .ok (.aload_n 0, 1) := by decide +kernel
theorem dL_law_714 : decode cL_law 714 = .ok (.iload 4, 2) := by decide +kernel
theorem dL_law_716 : decode cL_law 716 = .ok (.iconst 2, 1) := by decide +kernel
theorem dL_law_717 : decode cL_law 717 = .ok (.iadd, 1) := by decide +kernel
theorem dL_law_718 : decode cL_law 718 = .ok (.iaload, 1) := by decide +kernel
theorem dL_law_719 : decode cL_law 719 = .ok (.aload_n 0, 1) := by decide +kernel
theorem dL_law_720 : decode cL_law 720 = .ok (.iload 4, 2) := by decide +kernel
theorem dL_law_722 : decode cL_law 722 = .ok (.iconst 3, 1) := by decide +kernel
theorem dL_law_723 : decode cL_law 723 = .ok (.iadd, 1) := by decide +kernel
theorem dL_law_724 : decode cL_law 724 = .ok (.iaload, 1) := by decide +kernel
theorem dL_law_725 : decode cL_law 725 = .ok (.aload_n 0, 1) := by decide +kernel
theorem dL_law_726 : decode cL_law 726 = .ok (.iload 4, 2) := by decide +kernel
theorem dL_law_728 : decode cL_law 728 = .ok (.iconst 4, 1) := by decide +kernel
theorem dL_law_729 : decode cL_law 729 = .ok (.iadd, 1) := by decide +kernel
theorem dL_law_730 : decode cL_law 730 = .ok (.iaload, 1) := by decide +kernel
theorem dL_law_731 : decode cL_law 731 = .ok (.invokevirtual 152, 3) := by decide +kernel
theorem dL_law_734 : decode cL_law 734 = .ok (.istore 6, 2) := by decide +kernel
theorem dL_law_736 : decode cL_law 736 = .ok (.aload_n 2, 1) := by decide +kernel
theorem dL_law_737 : decode cL_law 737 = .ok (.invokevirtual 126, 3) := by decide +kernel
theorem dL_law_740 : decode cL_law 740 = .ok (.iload 5, 2) := by decide +kernel
theorem dL_law_742 : decode cL_law 742 = .ok (.if_icmp .eq 5, 3) := by decide +kernel
theorem dL_law_745 : decode cL_law 745 = .ok (.iconst 0, 1) := by decide +kernel
theorem dL_law_746 : decode cL_law 746 = .ok (.ireturn, 1) := by decide +kernel
theorem dL_law_747 : decode cL_law 747 = .ok (.iload 5, 2) := by decide +kernel
theorem dL_law_749 : decode cL_law 749 = .ok (.ifCond .ne 15, 3) := by decide +kernel
theorem dL_law_752 : decode cL_law 752 = .ok (.aload_n 3, 1) := by decide +kernel
theorem dL_law_753 : decode cL_law 753 = .ok (.iconst 0, 1) := by decide +kernel
theorem dL_law_754 : decode cL_law 754 = .ok (.laload, 1) := by decide +kernel
theorem dL_law_755 : decode cL_law 755 = .ok (.iload 6, 2) := by decide +kernel
theorem dL_law_757 : decode cL_law 757 = .ok (.i2l, 1) := by decide +kernel
theorem dL_law_758 : decode cL_law 758 = .ok (.lcmp, 1) := by decide +kernel
theorem dL_law_759 : decode cL_law 759 = .ok (.ifCond .eq 5, 3) := by decide +kernel
theorem dL_law_762 : decode cL_law 762 = .ok (.iconst 0, 1) := by decide +kernel
theorem dL_law_763 : decode cL_law 763 = .ok (.ireturn, 1) := by decide +kernel
theorem dL_law_764 : decode cL_law 764 = .ok (.goto 1705, 3) := by decide +kernel
theorem dL_law_767 : decode cL_law 767 = .ok (.aload_n 1, 1) := by decide +kernel
theorem dL_law_768 : decode cL_law 768 = .ok (.aload_n 0, 1) := by decide +kernel
theorem dL_law_769 : decode cL_law 769 = .ok (.iload 4, 2) := by decide +kernel
theorem dL_law_771 : decode cL_law 771 = .ok (.iconst 1, 1) := by decide +kernel
theorem dL_law_772 : decode cL_law 772 = .ok (.iadd, 1) := by decide +kernel
theorem dL_law_773 : decode cL_law 773 = .ok (.iaload, 1) := by decide +kernel
theorem dL_law_774 : decode cL_law 774 = .ok (.aload_n 0, 1) := by decide +kernel
theorem dL_law_775 : decode cL_law 775 = .ok (.iload 4, 2) := by decide +kernel
theorem dL_law_777 : decode cL_law 777 = .ok (.iconst 2, 1) := by decide +kernel
theorem dL_law_778 : decode cL_law 778 = .ok (.iadd, 1) := by decide +kernel
theorem dL_law_779 : decode cL_law 779 = .ok (.iaload, 1) := by decide +kernel
theorem dL_law_780 : decode cL_law 780 = .ok (.aload_n 0, 1) := by decide +kernel
theorem dL_law_781 : decode cL_law 781 = .ok (.iload 4, 2) := by decide +kernel
theorem dL_law_783 : decode cL_law 783 = .ok (.iconst 3, 1) := by decide +kernel
theorem dL_law_784 : decode cL_law 784 = .ok (.iadd, 1) := by decide +kernel
theorem dL_law_785 : decode cL_law 785 = .ok (.iaload, 1) := by decide +kernel
theorem dL_law_786 : decode cL_law 786 = .ok (.aload_n 3, 1) := by decide +kernel
theorem dL_law_787 : decode cL_law 787 = .ok (.invokestatic 153, 3) := by decide +kernel
theorem dL_law_790 : decode cL_law 790 = .ok (.istore 5, 2) := by decide +kernel
theorem dL_law_792 : decode cL_law 792 = .ok (.aload_n 2, 1) := by decide +kernel
theorem dL_law_793 : decode cL_law 793 = .ok (.aload_n 0, 1) := by decide +kernel
theorem dL_law_794 : decode cL_law 794 = .ok (.iload 4, 2) := by decide +kernel
theorem dL_law_796 : decode cL_law 796 = .ok (.iconst 1, 1) := by decide +kernel
theorem dL_law_797 : decode cL_law 797 = .ok (.iadd, 1) := by decide +kernel
theorem dL_law_798 : decode cL_law 798 = .ok (.iaload, 1) := by decide +kernel
theorem dL_law_799 : decode cL_law 799 = .ok (.aload_n 0, 1) := by decide +kernel
theorem dL_law_800 : decode cL_law 800 = .ok (.iload 4, 2) := by decide +kernel
theorem dL_law_802 : decode cL_law 802 = .ok (.iconst 2, 1) := by decide +kernel
theorem dL_law_803 : decode cL_law 803 = .ok (.iadd, 1) := by decide +kernel
theorem dL_law_804 : decode cL_law 804 = .ok (.iaload, 1) := by decide +kernel
theorem dL_law_805 : decode cL_law 805 = .ok (.aload_n 0, 1) := by decide +kernel
theorem dL_law_806 : decode cL_law 806 = .ok (.iload 4, 2) := by decide +kernel
theorem dL_law_808 : decode cL_law 808 = .ok (.iconst 3, 1) := by decide +kernel
theorem dL_law_809 : decode cL_law 809 = .ok (.iadd, 1) := by decide +kernel
theorem dL_law_810 : decode cL_law 810 = .ok (.iaload, 1) := by decide +kernel
theorem dL_law_811 : decode cL_law 811 = .ok (.invokevirtual 156, 3) := by decide +kernel
theorem dL_law_814 : decode cL_law 814 = .ok (.istore 6, 2) := by decide +kernel
theorem dL_law_816 : decode cL_law 816 = .ok (.aload_n 2, 1) := by decide +kernel
theorem dL_law_817 : decode cL_law 817 = .ok (.invokevirtual 126, 3) := by decide +kernel
theorem dL_law_820 : decode cL_law 820 = .ok (.iload 5, 2) := by decide +kernel
theorem dL_law_822 : decode cL_law 822 = .ok (.if_icmp .eq 5, 3) := by decide +kernel
theorem dL_law_825 : decode cL_law 825 = .ok (.iconst 0, 1) := by decide +kernel
theorem dL_law_826 : decode cL_law 826 = .ok (.ireturn, 1) := by decide +kernel
theorem dL_law_827 : decode cL_law 827 = .ok (.iload 5, 2) := by decide +kernel
theorem dL_law_829 : decode cL_law 829 = .ok (.ifCond .ne 15, 3) := by decide +kernel
theorem dL_law_832 : decode cL_law 832 = .ok (.aload_n 3, 1) := by decide +kernel
theorem dL_law_833 : decode cL_law 833 = .ok (.iconst 0, 1) := by decide +kernel
theorem dL_law_834 : decode cL_law 834 = .ok (.laload, 1) := by decide +kernel
theorem dL_law_835 : decode cL_law 835 = .ok (.iload 6, 2) := by decide +kernel
theorem dL_law_837 : decode cL_law 837 = .ok (.i2l, 1) := by decide +kernel
theorem dL_law_838 : decode cL_law 838 = .ok (.lcmp, 1) := by decide +kernel
theorem dL_law_839 : decode cL_law 839 = .ok (.ifCond .eq 5, 3) := by decide +kernel
theorem dL_law_842 : decode cL_law 842 = .ok (.iconst 0, 1) := by decide +kernel
theorem dL_law_843 : decode cL_law 843 = .ok (.ireturn, 1) := by decide +kernel
theorem dL_law_844 : decode cL_law 844 = .ok (.goto 1625, 3) := by decide +kernel
theorem dL_law_847 : decode cL_law 847 = .ok (.aload_n 1, 1) := by decide +kernel
theorem dL_law_848 : decode cL_law 848 = .ok (.aload_n 0, 1) := by decide +kernel
theorem dL_law_849 : decode cL_law 849 = .ok (.iload 4, 2) := by decide +kernel
theorem dL_law_851 : decode cL_law 851 = .ok (.iconst 1, 1) := by decide +kernel
theorem dL_law_852 : decode cL_law 852 = .ok (.iadd, 1) := by decide +kernel
theorem dL_law_853 : decode cL_law 853 = .ok (.iaload, 1) := by decide +kernel
theorem dL_law_854 : decode cL_law 854 = .ok (.aload_n 0, 1) := by decide +kernel
theorem dL_law_855 : decode cL_law 855 = .ok (.iload 4, 2) := by decide +kernel
theorem dL_law_857 : decode cL_law 857 = .ok (.iconst 2, 1) := by decide +kernel
theorem dL_law_858 : decode cL_law 858 = .ok (.iadd, 1) := by decide +kernel
theorem dL_law_859 : decode cL_law 859 = .ok (.iaload, 1) := by decide +kernel
theorem dL_law_860 : decode cL_law 860 = .ok (.aload_n 3, 1) := by decide +kernel
theorem dL_law_861 : decode cL_law 861 = .ok (.invokestatic 157, 3) := by decide +kernel
theorem dL_law_864 : decode cL_law 864 = .ok (.istore 5, 2) := by decide +kernel
theorem dL_law_866 : decode cL_law 866 = .ok (.aload_n 2, 1) := by decide +kernel
theorem dL_law_867 : decode cL_law 867 = .ok (.aload_n 0, 1) := by decide +kernel
theorem dL_law_868 : decode cL_law 868 = .ok (.iload 4, 2) := by decide +kernel
theorem dL_law_870 : decode cL_law 870 = .ok (.iconst 1, 1) := by decide +kernel
theorem dL_law_871 : decode cL_law 871 = .ok (.iadd, 1) := by decide +kernel
theorem dL_law_872 : decode cL_law 872 = .ok (.iaload, 1) := by decide +kernel
theorem dL_law_873 : decode cL_law 873 = .ok (.aload_n 0, 1) := by decide +kernel
theorem dL_law_874 : decode cL_law 874 = .ok (.iload 4, 2) := by decide +kernel
theorem dL_law_876 : decode cL_law 876 = .ok (.iconst 2, 1) := by decide +kernel
theorem dL_law_877 : decode cL_law 877 = .ok (.iadd, 1) := by decide +kernel
theorem dL_law_878 : decode cL_law 878 = .ok (.iaload, 1) := by decide +kernel
theorem dL_law_879 : decode cL_law 879 = .ok (.invokevirtual 159, 3) := by decide +kernel
theorem dL_law_882 : decode cL_law 882 = .ok (.istore 6, 2) := by decide +kernel
theorem dL_law_884 : decode cL_law 884 = .ok (.aload_n 2, 1) := by decide +kernel
theorem dL_law_885 : decode cL_law 885 = .ok (.invokevirtual 126, 3) := by decide +kernel
theorem dL_law_888 : decode cL_law 888 = .ok (.iload 5, 2) := by decide +kernel
end
section
theorem dL_law_890 : decode cL_law 890 = .ok (.if_icmp .eq 5, 3) := by decide +kernel
theorem dL_law_893 : decode cL_law 893 = .ok (.iconst 0, 1) := by decide +kernel
theorem dL_law_894 : decode cL_law 894 = .ok (.ireturn, 1) := by decide +kernel
theorem dL_law_895 : decode cL_law 895 = .ok (.iload 5, 2) := by decide +kernel
theorem dL_law_897 : decode cL_law 897 = .ok (.ifCond .ne 15, 3) := by decide +kernel
theorem dL_law_900 : decode cL_law 900 = .ok (.aload_n 3, 1) := by decide +kernel
theorem dL_law_901 : decode cL_law 901 = .ok (.iconst 0, 1) := by decide +kernel
theorem dL_law_902 : decode cL_law 902 = .ok (.laload, 1) := by decide +kernel
theorem dL_law_903 : decode cL_law 903 = .ok (.iload 6, 2) := by decide +kernel
theorem dL_law_905 : decode cL_law 905 = .ok (.i2l, 1) := by decide +kernel
theorem dL_law_906 : decode cL_law 906 = .ok (.lcmp, 1) := by decide +kernel
theorem dL_law_907 : decode cL_law 907 = .ok (.ifCond .eq 5, 3) := by decide +kernel
theorem dL_law_910 : decode cL_law 910 = .ok (.iconst 0, 1) := by decide +kernel
theorem dL_law_911 : decode cL_law 911 = .ok (.ireturn, 1) := by decide +kernel
theorem dL_law_912 : decode cL_law 912 = .ok (.goto 1557, 3) := by decide +kernel
theorem dL_law_915 : decode cL_law 915 = .ok (.aload_n 1, 1) := by decide +kernel
theorem dL_law_916 : decode cL_law 916 = .ok (.aload_n 0, 1) := by decide +kernel
theorem dL_law_917 : decode cL_law 917 = .ok (.iload 4, 2) := by decide +kernel
theorem dL_law_919 : decode cL_law 919 = .ok (.iconst 1, 1) := by decide +kernel
theorem dL_law_920 : decode cL_law 920 = .ok (.iadd, 1) := by decide +kernel
theorem dL_law_921 : decode cL_law 921 = .ok (.iaload, 1) := by decide +kernel
theorem dL_law_922 : decode cL_law 922 = .ok (.aload_n 3, 1) := by decide +kernel
theorem dL_law_923 : decode cL_law 923 = .ok (.invokestatic 160, 3) := by decide +kernel
theorem dL_law_926 : decode cL_law 926 = .ok (.istore 5, 2) := by decide +kernel
theorem dL_law_928 : decode cL_law 928 = .ok (.aload_n 2, 1) := by decide +kernel
theorem dL_law_929 : decode cL_law 929 = .ok (.aload_n 0, 1) := by decide +kernel
theorem dL_law_930 : decode cL_law 930 = .ok (.iload 4, 2) := by decide +kernel
theorem dL_law_932 : decode cL_law 932 = .ok (.iconst 1, 1) := by decide +kernel
theorem dL_law_933 : decode cL_law 933 = .ok (.iadd, 1) := by decide +kernel
theorem dL_law_934 : decode cL_law 934 = .ok (.iaload, 1) := by decide +kernel
theorem dL_law_935 : decode cL_law 935 = .ok (.invokevirtual 162, 3) := by decide +kernel
theorem dL_law_938 : decode cL_law 938 = .ok (.istore 6, 2) := by decide +kernel
theorem dL_law_940 : decode cL_law 940 = .ok (.aload_n 2, 1) := by decide +kernel
theorem dL_law_941 : decode cL_law 941 = .ok (.invokevirtual 126, 3) := by decide +kernel
theorem dL_law_944 : decode cL_law 944 = .ok (.iload 5, 2) := by decide +kernel
theorem dL_law_946 : decode cL_law 946 = .ok (.if_icmp .eq 5, 3) := by decide +kernel
theorem dL_law_949 : decode cL_law 949 = .ok (.iconst 0, 1) := by decide +kernel
theorem dL_law_950 : decode cL_law 950 = .ok (.ireturn, 1) := by decide +kernel
theorem dL_law_951 : decode cL_law 951 = .ok (.iload 5, 2) := by decide +kernel
theorem dL_law_953 : decode cL_law 953 = .ok (.ifCond .ne 15, 3) := by decide +kernel
theorem dL_law_956 : decode cL_law 956 = .ok (.aload_n 3, 1) := by decide +kernel
theorem dL_law_957 : decode cL_law 957 = .ok (.iconst 0, 1) := by decide +kernel
theorem dL_law_958 : decode cL_law 958 = .ok (.laload, 1) := by decide +kernel
theorem dL_law_959 : decode cL_law 959 = .ok (.iload 6, 2) := by decide +kernel
theorem dL_law_961 : decode cL_law 961 = .ok (.i2l, 1) := by decide +kernel
theorem dL_law_962 : decode cL_law 962 = .ok (.lcmp, 1) := by decide +kernel
theorem dL_law_963 : decode cL_law 963 = .ok (.ifCond .eq 5, 3) := by decide +kernel
theorem dL_law_966 : decode cL_law 966 = .ok (.iconst 0, 1) := by decide +kernel
theorem dL_law_967 : decode cL_law 967 = .ok (.ireturn, 1) := by decide +kernel
theorem dL_law_968 : decode cL_law 968 = .ok (.goto 1501, 3) := by decide +kernel
theorem dL_law_971 : decode cL_law 971 = .ok (.aload_n 1, 1) := by decide +kernel
theorem dL_law_972 : decode cL_law 972 = .ok (.aload_n 0, 1) := by decide +kernel
theorem dL_law_973 : decode cL_law 973 = .ok (.iload 4, 2) := by decide +kernel
theorem dL_law_975 : decode cL_law 975 = .ok (.iconst 1, 1) := by decide +kernel
theorem dL_law_976 : decode cL_law 976 = .ok (.iadd, 1) := by decide +kernel
theorem dL_law_977 : decode cL_law 977 = .ok (.iaload, 1) := by decide +kernel
theorem dL_law_978 : decode cL_law 978 = .ok (.aload_n 3, 1) := by decide +kernel
theorem dL_law_979 : decode cL_law 979 = .ok (.invokestatic 163, 3) := by decide +kernel
theorem dL_law_982 : decode cL_law 982 = .ok (.istore 5, 2) := by decide +kernel
theorem dL_law_984 : decode cL_law 984 = .ok (.aload_n 2, 1) := by decide +kernel
theorem dL_law_985 : decode cL_law 985 = .ok (.aload_n 0, 1) := by decide +kernel
theorem dL_law_986 : decode cL_law 986 = .ok (.iload 4, 2) := by decide +kernel
theorem dL_law_988 : decode cL_law 988 = .ok (.iconst 1, 1) := by decide +kernel
theorem dL_law_989 : decode cL_law 989 = .ok (.iadd, 1) := by decide +kernel
theorem dL_law_990 : decode cL_law 990 = .ok (.iaload, 1) := by decide +kernel
theorem dL_law_991 : decode cL_law 991 = .ok (.invokevirtual 165, 3) := by decide +kernel
theorem dL_law_994 : decode cL_law 994 = .ok (.istore 6, 2) := by decide +kernel
theorem dL_law_996 : decode cL_law 996 = .ok (.aload_n 2, 1) := by decide +kernel
theorem dL_law_997 : decode cL_law 997 = .ok (.invokevirtual 126, 3) := by decide +kernel
theorem dL_law_1000 : decode cL_law 1000 = .ok (.iload 5, 2) := by decide +kernel
theorem dL_law_1002 : decode cL_law 1002 = .ok (.if_icmp .eq 5, 3) := by decide +kernel
theorem dL_law_1005 : decode cL_law 1005 = .ok (.iconst 0, 1) := by decide +kernel
theorem dL_law_1006 : decode cL_law 1006 = .ok (.ireturn, 1) := by decide +kernel
theorem dL_law_1007 : decode cL_law 1007 = .ok (.iload 5, 2) := by decide +kernel
theorem dL_law_1009 : decode cL_law 1009 = .ok (.ifCond .ne 15, 3) := by decide +kernel
theorem dL_law_1012 : decode cL_law 1012 = .ok (.aload_n 3, 1) := by decide +kernel
theorem dL_law_1013 : decode cL_law 1013 = .ok (.iconst 0, 1) := by decide +kernel
theorem dL_law_1014 : decode cL_law 1014 = .ok (.laload, 1) := by decide +kernel
theorem dL_law_1015 : decode cL_law 1015 = .ok (.iload 6, 2) := by decide +kernel
theorem dL_law_1017 : decode cL_law 1017 = .ok (.i2l, 1) := by decide +kernel
theorem dL_law_1018 : decode cL_law 1018 = .ok (.lcmp, 1) := by decide +kernel
theorem dL_law_1019 : decode cL_law 1019 = .ok (.ifCond .eq 5, 3) := by decide +kernel
theorem dL_law_1022 : decode cL_law 1022 = .ok (.iconst 0, 1) := by decide +kernel
theorem dL_law_1023 : decode cL_law 1023 = .ok (.ireturn, 1) := by decide +kernel
theorem dL_law_1024 : decode cL_law 1024 = .ok (.goto 1445, 3) := by decide +kernel
theorem dL_law_1027 : decode cL_law 1027 = .ok (.aload_n 1, 1) := by decide +kernel
theorem dL_law_1028 : decode cL_law 1028 = .ok (.aload_n 0, 1) := by decide +kernel
theorem dL_law_1029 : decode cL_law 1029 = .ok (.iload 4, 2) := by decide +kernel
theorem dL_law_1031 : decode cL_law 1031 = .ok (.iconst 1, 1) := by decide +kernel
theorem dL_law_1032 : decode cL_law 1032 = .ok (.iadd, 1) := by decide +kernel
theorem dL_law_1033 : decode cL_law 1033 = .ok (.iaload, 1) := by decide +kernel
theorem dL_law_1034 : decode cL_law 1034 = .ok (.aload_n 0, 1) := by decide +kernel
theorem dL_law_1035 : decode cL_law 1035 = .ok (.iload 4, 2) := by decide +kernel
theorem dL_law_1037 : decode cL_law 1037 = .ok (.iconst 2, 1) := by decide +kernel
theorem dL_law_1038 : decode cL_law 1038 = .ok (.iadd, 1) := by decide +kernel
theorem dL_law_1039 : decode cL_law 1039 = .ok (.iaload, 1) := by decide +kernel
theorem dL_law_1040 : decode cL_law 1040 = .ok (.ifCond .eq 7, 3) := by decide +kernel
theorem dL_law_1043 : decode cL_law 1043 = .ok (.iconst 1, 1) := by decide +kernel
theorem dL_law_1044 : decode cL_law 1044 = .ok (.goto 4, 3) := by decide +kernel
theorem dL_law_1047 : decode cL_law 1047 = .ok (.iconst 0, 1) := by decide +kernel
theorem dL_law_1048 : decode cL_law 1048 = .ok (.aload_n 3, 1) := by decide +kernel
theorem dL_law_1049 : decode cL_law 1049 = .ok (.invokestatic 166, 3) := by decide +kernel
theorem dL_law_1052 : decode cL_law 1052 = .ok (.istore 5, 2) := by decide +kernel
theorem dL_law_1054 : decode cL_law 1054 = .ok (.aload_n 2, 1) := by decide +kernel
theorem dL_law_1055 : decode cL_law 1055 = .ok (.aload_n 0, 1) := by decide +kernel
theorem dL_law_1056 : decode cL_law 1056 = .ok (.iload 4, 2) := by decide +kernel
theorem dL_law_1058 : decode cL_law 1058 = .ok (.iconst 1, 1) := by decide +kernel
theorem dL_law_1059 : decode cL_law 1059 = .ok (.iadd, 1) := by decide +kernel
theorem dL_law_1060 : decode cL_law 1060 = .ok (.iaload, 1) := by decide +kernel
theorem dL_law_1061 : decode cL_law 1061 = .ok (.aload_n 0, 1) := by decide +kernel
theorem dL_law_1062 : decode cL_law 1062 = .ok (.iload 4, 2) := by decide +kernel
theorem dL_law_1064 : decode cL_law 1064 = .ok (.iconst 2, 1) := by decide +kernel
theorem dL_law_1065 : decode cL_law 1065 = .ok (.iadd, 1) := by decide +kernel
theorem dL_law_1066 : decode cL_law 1066 = .ok (.iaload, 1) := by decide +kernel
theorem dL_law_1067 : decode cL_law 1067 = .ok (.ifCond .eq 7, 3) := by decide +kernel
theorem dL_law_1070 : decode cL_law 1070 = .ok (.iconst 1, 1) := by decide +kernel
theorem dL_law_1071 : decode cL_law 1071 = .ok (.goto 4, 3) := by decide +kernel
theorem dL_law_1074 : decode cL_law 1074 = .ok (.iconst 0, 1) := by decide +kernel
theorem dL_law_1075 : decode cL_law 1075 = .ok (.invokevirtual 169, 3) := by decide +kernel
theorem dL_law_1078 : decode cL_law 1078 = .ok (.istore 6, 2) := by decide +kernel
theorem dL_law_1080 : decode cL_law 1080 = .ok (.aload_n 2, 1) := by decide +kernel
theorem dL_law_1081 : decode cL_law 1081 = .ok (.invokevirtual 126, 3) := by decide +kernel
theorem dL_law_1084 : decode cL_law 1084 = .ok (.iload 5, 2) := by decide +kernel
theorem dL_law_1086 : decode cL_law 1086 = .ok (.if_icmp .eq 5, 3) := by decide +kernel
theorem dL_law_1089 : decode cL_law 1089 = .ok (.iconst 0, 1) := by decide +kernel
theorem dL_law_1090 : decode cL_law 1090 = .ok (.ireturn, 1) := by decide +kernel
theorem dL_law_1091 : decode cL_law 1091 = .ok (.iload 5, 2) := by decide +kernel
theorem dL_law_1093 : decode cL_law 1093 = .ok (.ifCond .ne 22, 3) := by decide +kernel
theorem dL_law_1096 : decode cL_law 1096 = .ok (.aload_n 3, 1) := by decide +kernel
theorem dL_law_1097 : decode cL_law 1097 = .ok (.iconst 0, 1) := by decide +kernel
theorem dL_law_1098 : decode cL_law 1098 = .ok (.laload, 1) := by decide +kernel
theorem dL_law_1099 : decode cL_law 1099 = .ok (.iload 6, 2) := by decide +kernel
theorem dL_law_1101 : decode cL_law 1101 = .ok (.ifCond .eq 7, 3) := by decide +kernel
theorem dL_law_1104 : decode cL_law 1104 = .ok (.lconst 1, 1) := by decide +kernel
theorem dL_law_1105 : decode cL_law 1105 = .ok (.goto 4, 3) := by decide +kernel
theorem dL_law_1108 : decode cL_law 1108 = .ok (.lconst 0, 1) := by decide +kernel
theorem dL_law_1109 : decode cL_law 1109 = .ok (.lcmp, 1) := by decide +kernel
theorem dL_law_1110 : decode cL_law 1110 = .ok (.ifCond .eq 5, 3) := by decide +kernel
theorem dL_law_1113 : decode cL_law 1113 = .ok (.iconst 0, 1) := by decide +kernel
theorem dL_law_1114 : decode cL_law 1114 = .ok (.ireturn, 1) := by decide +kernel
theorem dL_law_1115 : decode cL_law 1115 = .ok (.goto 1354, 3) := by decide +kernel
theorem dL_law_1118 : decode cL_law 1118 = .ok (.aload_n 1, 1) := by decide +kernel
theorem dL_law_1119 : decode cL_law 1119 = .ok (.aload_n 0, 1) := by decide +kernel
theorem dL_law_1120 : decode cL_law 1120 = .ok (.iload 4, 2) := by decide +kernel
theorem dL_law_1122 : decode cL_law 1122 = .ok (.iconst 1, 1) := by decide +kernel
theorem dL_law_1123 : decode cL_law 1123 = .ok (.iadd, 1) := by decide +kernel
theorem dL_law_1124 : decode cL_law 1124 = .ok (.iaload, 1) := by decide +kernel
theorem dL_law_1125 : decode cL_law 1125 = .ok (.aload_n 0, 1) := by decide +kernel
theorem dL_law_1126 : decode cL_law 1126 = .ok (.iload 4, 2) := by decide +kernel
theorem dL_law_1128 : decode cL_law 1128 = .ok (.iconst 2, 1) := by decide +kernel
theorem dL_law_1129 : decode cL_law 1129 = .ok (.iadd, 1) := by decide +kernel
theorem dL_law_1130 : decode cL_law 1130 = .ok (.iaload, 1) := by decide +kernel
theorem dL_law_1131 : decode cL_law 1131 = .ok (.aload_n 0, 1) := by decide +kernel
theorem dL_law_1132 : decode cL_law 1132 = .ok (.iload 4, 2) := by decide +kernel
theorem dL_law_1134 : decode cL_law 1134 = .ok (.iconst 3, 1) := by decide +kernel
theorem dL_law_1135 : decode cL_law 1135 = .ok (.iadd, 1) := by decide +kernel
theorem dL_law_1136 : decode cL_law 1136 = .ok (.iaload, 1) := by decide +kernel
theorem dL_law_1137 : decode cL_law 1137 = .ok (.aload_n 3, 1) := by decide +kernel
theorem dL_law_1138 : decode cL_law 1138 = .ok (.invokestatic 170, 3) := by decide +kernel
theorem dL_law_1141 : decode cL_law 1141 = .ok (.istore 5, 2) := by decide +kernel
theorem dL_law_1143 : decode cL_law 1143 = .ok (.aload_n 2, 1) := by decide +kernel
theorem dL_law_1144 : decode cL_law 1144 = .ok (.aload_n 0, 1) := by decide +kernel
theorem dL_law_1145 : decode cL_law 1145 = .ok (.iload 4, 2) := by decide +kernel
theorem dL_law_1147 : decode cL_law 1147 = .ok (.iconst 1, 1) := by decide +kernel
theorem dL_law_1148 : decode cL_law 1148 = .ok (.iadd, 1) := by decide +kernel
theorem dL_law_1149 : decode cL_law 1149 = .ok (.iaload, 1) := by decide +kernel
theorem dL_law_1150 : decode cL_law 1150 = .ok (.aload_n 0, 1) := by decide +kernel
theorem dL_law_1151 : decode cL_law 1151 = .ok (.iload 4, 2) := by decide +kernel
theorem dL_law_1153 : decode cL_law 1153 = .ok (.iconst 2, 1) := by decide +kernel
theorem dL_law_1154 : decode cL_law 1154 = .ok (.iadd, 1) := by decide +kernel
theorem dL_law_1155 : decode cL_law 1155 = .ok (.iaload, 1) := by decide +kernel
theorem dL_law_1156 : decode cL_law 1156 = .ok (.aload_n 0, 1) := by decide +kernel
theorem dL_law_1157 : decode cL_law 1157 = .ok (.iload 4, 2) := by decide +kernel
theorem dL_law_1159 : decode cL_law 1159 = .ok (.iconst 3, 1) := by decide +kernel
theorem dL_law_1160 : decode cL_law 1160 = .ok (.iadd, 1) := by decide +kernel
theorem dL_law_1161 : decode cL_law 1161 = .ok (.iaload, 1) := by decide +kernel
theorem dL_law_1162 : decode cL_law 1162 = .ok (.invokevirtual 172, 3) := by decide +kernel
theorem dL_law_1165 : decode cL_law 1165 = .ok (.istore 6, 2) := by decide +kernel
theorem dL_law_1167 : decode cL_law 1167 = .ok (.aload_n 2, 1) := by decide +kernel
theorem dL_law_1168 : decode cL_law 1168 = .ok (.invokevirtual 126, 3) := by decide +kernel
theorem dL_law_1171 : decode cL_law 1171 = .ok (.iload 5, 2) := by decide +kernel
theorem dL_law_1173 : decode cL_law 1173 = .ok (.if_icmp .eq 5, 3) := by decide +kernel
theorem dL_law_1176 : decode cL_law 1176 = .ok (.iconst 0, 1) := by decide +kernel
theorem dL_law_1177 : decode cL_law 1177 = .ok (.ireturn, 1) := by decide +kernel
theorem dL_law_1178 : decode cL_law 1178 = .ok (.iload 5, 2) := by decide +kernel
theorem dL_law_1180 : decode cL_law 1180 = .ok (.ifCond .ne 15, 3) := by decide +kernel
theorem dL_law_1183 : decode cL_law 1183 = .ok (.aload_n 3, 1) := by decide +kernel
theorem dL_law_1184 : decode cL_law 1184 = .ok (.iconst 0, 1) := by decide +kernel
theorem dL_law_1185 : decode cL_law 1185 = .ok (.laload, 1) := by decide +kernel
theorem dL_law_1186 : decode cL_law 1186 = .ok (.iload 6, 2) := by decide +kernel
theorem dL_law_1188 : decode cL_law 1188 = .ok (.i2l, 1) := by decide +kernel
theorem dL_law_1189 : decode cL_law 1189 = .ok (.lcmp, 1) := by decide +kernel
theorem dL_law_1190 : decode cL_law 1190 = .ok (.ifCond .eq 5, 3) := by decide +kernel
theorem dL_law_1193 : decode cL_law 1193 = .ok (.iconst 0, 1) := by decide +kernel
theorem dL_law_1194 : decode cL_law 1194 = .ok (.ireturn, 1) := by decide +kernel
theorem dL_law_1195 : decode cL_law 1195 = .ok (.goto 1274, 3) := by decide +kernel
theorem dL_law_1198 : decode cL_law 1198 = .ok (.aload_n 1, 1) := by decide +kernel
theorem dL_law_1199 : decode cL_law 1199 = .ok (.aload_n 0, 1) := by decide +kernel
theorem dL_law_1200 : decode cL_law 1200 = .ok (.iload 4, 2) := by decide +kernel
theorem dL_law_1202 : decode cL_law 1202 = .ok (.iconst 1, 1) := by decide +kernel
theorem dL_law_1203 : decode cL_law 1203 = .ok (.iadd, 1) := by decide +kernel
theorem dL_law_1204 : decode cL_law 1204 = .ok (.iaload, 1) := by decide +kernel
theorem dL_law_1205 : decode cL_law 1205 = .ok (.aload_n 0, 1) := by decide +kernel
theorem dL_law_1206 : decode cL_law 1206 = .ok (.iload 4, 2) := by decide +kernel
theorem dL_law_1208 : decode cL_law 1208 = .ok (.iconst 2, 1) := by decide +kernel
theorem dL_law_1209 : decode cL_law 1209 = .ok (.iadd, 1) := by decide +kernel
theorem dL_law_1210 : decode cL_law 1210 = .ok (.iaload, 1) := by decide +kernel
theorem dL_law_1211 : decode cL_law 1211 = .ok (.aload_n 3, 1) := by decide +kernel
theorem dL_law_1212 : decode cL_law 1212 = .ok (.invokestatic 173, 3) := by decide +kernel
theorem dL_law_1215 : decode cL_law 1215 = .ok (.istore 5, 2) := by decide +kernel
theorem dL_law_1217 : decode cL_law 1217 = .ok (.aload_n 2, 1) := by decide +kernel
theorem dL_law_1218 : decode cL_law 1218 = .ok (.aload_n 0, 1) := by decide +kernel
theorem dL_law_1219 : decode cL_law 1219 = .ok (.iload 4, 2) := by decide +kernel
theorem dL_law_1221 : decode cL_law 1221 = .ok (.iconst 1, 1) := by decide +kernel
theorem dL_law_1222 : decode cL_law 1222 = .ok (.iadd, 1) := by decide +kernel
theorem dL_law_1223 : decode cL_law 1223 = .ok (.iaload, 1) := by decide +kernel
theorem dL_law_1224 : decode cL_law 1224 = .ok (.aload_n 0, 1) := by decide +kernel
theorem dL_law_1225 : decode cL_law 1225 = .ok (.iload 4, 2) := by decide +kernel
theorem dL_law_1227 : decode cL_law 1227 = .ok (.iconst 2, 1) := by decide +kernel
theorem dL_law_1228 : decode cL_law 1228 = .ok (.iadd, 1) := by decide +kernel
theorem dL_law_1229 : decode cL_law 1229 = .ok (.iaload, 1) := by decide +kernel
theorem dL_law_1230 : decode cL_law 1230 = .ok (.invokevirtual 175, 3) := by decide +kernel
theorem dL_law_1233 : decode cL_law 1233 = .ok (.istore 6, 2) := by decide +kernel
theorem dL_law_1235 : decode cL_law 1235 = .ok (.aload_n 2, 1) := by decide +kernel
theorem dL_law_1236 : decode cL_law 1236 = .ok (.invokevirtual 126, 3) := by decide +kernel
theorem dL_law_1239 : decode cL_law 1239 = .ok (.iload 5, 2) := by decide +kernel
theorem dL_law_1241 : decode cL_law 1241 = .ok (.if_icmp .eq 5, 3) := by decide +kernel
theorem dL_law_1244 : decode cL_law 1244 = .ok (.iconst 0, 1) := by decide +kernel
theorem dL_law_1245 : decode cL_law 1245 = .ok (.ireturn, 1) := by decide +kernel
theorem dL_law_1246 : decode cL_law 1246 = .ok (.iload 5, 2) := by decide +kernel
theorem dL_law_1248 : decode cL_law 1248 = .ok (.ifCond .ne 15, 3) := by decide +kernel
theorem dL_law_1251 : decode cL_law 1251 = .ok (.aload_n 3, 1) := by decide +kernel
theorem dL_law_1252 : decode cL_law 1252 = .ok (.iconst 0, 1) := by decide +kernel
theorem dL_law_1253 : decode cL_law 1253 = .ok (.laload, 1) := by decide +kernel
theorem dL_law_1254 : decode cL_law 1254 = .ok (.iload 6, 2) := by decide +kernel
theorem dL_law_1256 : decode cL_law 1256 = .ok (.i2l, 1) := by decide +kernel
theorem dL_law_1257 : decode cL_law 1257 = .ok (.lcmp, 1) := by decide +kernel
theorem dL_law_1258 : decode cL_law 1258 = .ok (.ifCond .eq 5, 3) := by decide +kernel
theorem dL_law_1261 : decode cL_law 1261 = .ok (.iconst 0, 1) := by decide +kernel
theorem dL_law_1262 : decode cL_law 1262 = .ok (.ireturn, 1) := by decide +kernel
theorem dL_law_1263 : decode cL_law 1263 = .ok (.goto 1206, 3) := by decide +kernel
theorem dL_law_1266 : decode cL_law 1266 = .ok (.aload_n 1, 1) := by decide +kernel
theorem dL_law_1267 : decode cL_law 1267 = .ok (.aload_n 0, 1) := by decide +kernel
theorem dL_law_1268 : decode cL_law 1268 = .ok (.iload 4, 2) := by decide +kernel
theorem dL_law_1270 : decode cL_law 1270 = .ok (.iconst 1, 1) := by decide +kernel
theorem dL_law_1271 : decode cL_law 1271 = .ok (.iadd, 1) := by decide +kernel
theorem dL_law_1272 : decode cL_law 1272 = .ok (.iaload, 1) := by decide +kernel
theorem dL_law_1273 : decode cL_law 1273 = .ok (.aload_n 0, 1) := by decide +kernel
theorem dL_law_1274 : decode cL_law 1274 = .ok (.iload 4, 2) := by decide +kernel
theorem dL_law_1276 : decode cL_law 1276 = .ok (.iconst 2, 1) := by decide +kernel
theorem dL_law_1277 : decode cL_law 1277 = .ok (.iadd, 1) := by decide +kernel
theorem dL_law_1278 : decode cL_law 1278 = .ok (.iaload, 1) := by decide +kernel
theorem dL_law_1279 : decode cL_law 1279 = .ok (.ifCond .eq 7, 3) := by decide +kernel
theorem dL_law_1282 : decode cL_law 1282 = .ok (.iconst 1, 1) := by decide +kernel
theorem dL_law_1283 : decode cL_law 1283 = .ok (.goto 4, 3) := by decide +kernel
theorem dL_law_1286 : decode cL_law 1286 = .ok (.iconst 0, 1) := by decide +kernel
theorem dL_law_1287 : decode cL_law 1287 = .ok (.aload_n 3, 1) := by decide +kernel
theorem dL_law_1288 : decode cL_law 1288 = .ok (.invokestatic 176, 3) := by decide +kernel
theorem dL_law_1291 : decode cL_law 1291 = .ok (.istore 5, 2) := by decide +kernel
theorem dL_law_1293 : decode cL_law 1293 = .ok (.aload_n 2, 1) := by decide +kernel
theorem dL_law_1294 : decode cL_law 1294 = .ok (.aload_n 0, 1) := by decide +kernel
theorem dL_law_1295 : decode cL_law 1295 = .ok (.iload 4, 2) := by decide +kernel
theorem dL_law_1297 : decode cL_law 1297 = .ok (.iconst 1, 1) := by decide +kernel
theorem dL_law_1298 : decode cL_law 1298 = .ok (.iadd, 1) := by decide +kernel
theorem dL_law_1299 : decode cL_law 1299 = .ok (.iaload, 1) := by decide +kernel
theorem dL_law_1300 : decode cL_law 1300 = .ok (.aload_n 0, 1) := by decide +kernel
theorem dL_law_1301 : decode cL_law 1301 = .ok (.iload 4, 2) := by decide +kernel
theorem dL_law_1303 : decode cL_law 1303 = .ok (.iconst 2, 1) := by decide +kernel
theorem dL_law_1304 : decode cL_law 1304 = .ok (.iadd, 1) := by decide +kernel
theorem dL_law_1305 : decode cL_law 1305 = .ok (.iaload, 1) := by decide +kernel
theorem dL_law_1306 : decode cL_law 1306 = .ok (.ifCond .eq 7, 3) := by decide +kernel
theorem dL_law_1309 : decode cL_law 1309 = .ok (.iconst 1, 1) := by decide +kernel
theorem dL_law_1310 : decode cL_law 1310 = .ok (.goto 4, 3) := by decide +kernel
theorem dL_law_1313 : decode cL_law 1313 = .ok (.iconst 0, 1) := by decide +kernel
theorem dL_law_1314 : decode cL_law 1314 = .ok (.invokevirtual 178, 3) := by decide +kernel
theorem dL_law_1317 : decode cL_law 1317 = .ok (.istore 6, 2) := by decide +kernel
theorem dL_law_1319 : decode cL_law 1319 = .ok (.aload_n 2, 1) := by decide +kernel
theorem dL_law_1320 : decode cL_law 1320 = .ok (.invokevirtual 126, 3) := by decide +kernel
theorem dL_law_1323 : decode cL_law 1323 = .ok (.iload 5, 2) := by decide +kernel
theorem dL_law_1325 : decode cL_law 1325 = .ok (.if_icmp .eq 5, 3) := by decide +kernel
theorem dL_law_1328 : decode cL_law 1328 = .ok (.iconst 0, 1) := by decide +kernel
theorem dL_law_1329 : decode cL_law 1329 = .ok (.ireturn, 1) := by decide +kernel
theorem dL_law_1330 : decode cL_law 1330 = .ok (.iload 5, 2) := by decide +kernel
theorem dL_law_1332 : decode cL_law 1332 = .ok (.ifCond .ne 22, 3) := by decide +kernel
theorem dL_law_1335 : decode cL_law 1335 = .ok (.aload_n 3, 1) := by decide +kernel
theorem dL_law_1336 : decode cL_law 1336 = .ok (.iconst 0, 1) := by decide +kernel
theorem dL_law_1337 : decode cL_law 1337 = .ok (.laload, 1) := by decide +kernel
theorem dL_law_1338 : decode cL_law 1338 = .ok (.iload 6, 2) := by decide +kernel
theorem dL_law_1340 : decode cL_law 1340 = .ok (.ifCond .eq 7, 3) := by decide +kernel
theorem dL_law_1343 : decode cL_law 1343 = .ok (.lconst 1, 1) := by decide +kernel
theorem dL_law_1344 : decode cL_law 1344 = .ok (.goto 4, 3) := by decide +kernel
theorem dL_law_1347 : decode cL_law 1347 = .ok (.lconst 0, 1) := by decide +kernel
theorem dL_law_1348 : decode cL_law 1348 = .ok (.lcmp, 1) := by decide +kernel
theorem dL_law_1349 : decode cL_law 1349 = .ok (.ifCond .eq 5, 3) := by decide +kernel
theorem dL_law_1352 : decode cL_law 1352 = .ok (.iconst 0, 1) := by decide +kernel
theorem dL_law_1353 : decode cL_law 1353 = .ok (.ireturn, 1) := by decide +kernel
theorem dL_law_1354 : decode cL_law 1354 = .ok (.goto 1115, 3) := by decide +kernel
theorem dL_law_1357 : decode cL_law 1357 = .ok (.aload_n 1, 1) := by decide +kernel
theorem dL_law_1358 : decode cL_law 1358 = .ok (.aload_n 0, 1) := by decide +kernel
theorem dL_law_1359 : decode cL_law 1359 = .ok (.iload 4, 2) := by decide +kernel
theorem dL_law_1361 : decode cL_law 1361 = .ok (.iconst 1, 1) := by decide +kernel
theorem dL_law_1362 : decode cL_law 1362 = .ok (.iadd, 1) := by decide +kernel
theorem dL_law_1363 : decode cL_law 1363 = .ok (.iaload, 1) := by decide +kernel
theorem dL_law_1364 : decode cL_law 1364 = .ok (.aload_n 0, 1) := by decide +kernel
theorem dL_law_1365 : decode cL_law 1365 = .ok (.iload 4, 2) := by decide +kernel
theorem dL_law_1367 : decode cL_law 1367 = .ok (.iconst 2, 1) := by decide +kernel
theorem dL_law_1368 : decode cL_law 1368 = .ok (.iadd, 1) := by decide +kernel
theorem dL_law_1369 : decode cL_law 1369 = .ok (.iaload, 1) := by decide +kernel
theorem dL_law_1370 : decode cL_law 1370 = .ok (.aload_n 3, 1) := by decide +kernel
theorem dL_law_1371 : decode cL_law 1371 = .ok (.invokestatic 179, 3) := by decide +kernel
theorem dL_law_1374 : decode cL_law 1374 = .ok (.istore 5, 2) := by decide +kernel
theorem dL_law_1376 : decode cL_law 1376 = .ok (.aload_n 2, 1) := by decide +kernel
theorem dL_law_1377 : decode cL_law 1377 = .ok (.aload_n 0, 1) := by decide +kernel
theorem dL_law_1378 : decode cL_law 1378 = .ok (.iload 4, 2) := by decide +kernel
theorem dL_law_1380 : decode cL_law 1380 = .ok (.iconst 1, 1) := by decide +kernel
theorem dL_law_1381 : decode cL_law 1381 = .ok (.iadd, 1) := by decide +kernel
theorem dL_law_1382 : decode cL_law 1382 = .ok (.iaload, 1) := by decide +kernel
theorem dL_law_1383 : decode cL_law 1383 = .ok (.aload_n 0, 1) := by decide +kernel
theorem dL_law_1384 : decode cL_law 1384 = .ok (.iload 4, 2) := by decide +kernel
theorem dL_law_1386 : decode cL_law 1386 = .ok (.iconst 2, 1) := by decide +kernel
theorem dL_law_1387 : decode cL_law 1387 = .ok (.iadd, 1) := by decide +kernel
theorem dL_law_1388 : decode cL_law 1388 = .ok (.iaload, 1) := by decide +kernel
theorem dL_law_1389 : decode cL_law 1389 = .ok (.invokevirtual 181, 3) := by decide +kernel
theorem dL_law_1392 : decode cL_law 1392 = .ok (.istore 6, 2) := by decide +kernel
theorem dL_law_1394 : decode cL_law 1394 = .ok (.aload_n 2, 1) := by decide +kernel
theorem dL_law_1395 : decode cL_law 1395 = .ok (.invokevirtual 126, 3) := by decide +kernel
theorem dL_law_1398 : decode cL_law 1398 = .ok (.iload 5, 2) := by decide +kernel
theorem dL_law_1400 : decode cL_law 1400 = .ok (.if_icmp .eq 5, 3) := by decide +kernel
theorem dL_law_1403 : decode cL_law 1403 = .ok (.iconst 0, 1) := by decide +kernel
theorem dL_law_1404 : decode cL_law 1404 = .ok (.ireturn, 1) := by decide +kernel
theorem dL_law_1405 : decode cL_law 1405 = .ok (.iload 5, 2) := by decide +kernel
theorem dL_law_1407 : decode cL_law 1407 = .ok (.ifCond .ne 15, 3) := by decide +kernel
theorem dL_law_1410 : decode cL_law 1410 = .ok (.aload_n 3, 1) := by decide +kernel
theorem dL_law_1411 : decode cL_law 1411 = .ok (.iconst 0, 1) := by decide +kernel
theorem dL_law_1412 : decode cL_law 1412 = .ok (.laload, 1) := by decide +kernel
theorem dL_law_1413 : decode cL_law 1413 = .ok (.iload 6, 2) := by decide +kernel
theorem dL_law_1415 : decode cL_law 1415 = .ok (.i2l, 1) := by decide +kernel
theorem dL_law_1416 : decode cL_law 1416 = .ok (.lcmp, 1) := by decide +kernel
theorem dL_law_1417 : decode cL_law 1417 = .ok (.ifCond .eq 5, 3) := by decide +kernel
theorem dL_law_1420 : decode cL_law 1420 = .ok (.iconst 0, 1) := by decide +kernel
theorem dL_law_1421 : decode cL_law 1421 = .ok (.ireturn, 1) := by decide +kernel
theorem dL_law_1422 : decode cL_law 1422 = .ok (.goto 1047, 3) := by decide +kernel
theorem dL_law_1425 : decode cL_law 1425 = .ok (.aload_n 1, 1) := by decide +kernel
theorem dL_law_1426 : decode cL_law 1426 = .ok (.aload_n 0, 1) := by decide +kernel
theorem dL_law_1427 : decode cL_law 1427 = .ok (.iload 4, 2) := by decide +kernel
theorem dL_law_1429 : decode cL_law 1429 = .ok (.iconst 1, 1) := by decide +kernel
theorem dL_law_1430 : decode cL_law 1430 = .ok (.iadd, 1) := by decide +kernel
theorem dL_law_1431 : decode cL_law 1431 = .ok (.iaload, 1) := by decide +kernel
theorem dL_law_1432 : decode cL_law 1432 = .ok (.aload_n 0, 1) := by decide +kernel
theorem dL_law_1433 : decode cL_law 1433 = .ok (.iload 4, 2) := by decide +kernel
theorem dL_law_1435 : decode cL_law 1435 = .ok (.iconst 2, 1) := by decide +kernel
theorem dL_law_1436 : decode cL_law 1436 = .ok (.iadd, 1) := by decide +kernel
theorem dL_law_1437 : decode cL_law 1437 = .ok (.iaload, 1) := by decide +kernel
theorem dL_law_1438 : decode cL_law 1438 = .ok (.aload_n 3, 1) := by decide +kernel
theorem dL_law_1439 : decode cL_law 1439 = .ok (.invokestatic 182, 3) := by decide +kernel
theorem dL_law_1442 : decode cL_law 1442 = .ok (.istore 5, 2) := by decide +kernel
theorem dL_law_1444 : decode cL_law 1444 = .ok (.aload_n 2, 1) := by decide +kernel
theorem dL_law_1445 : decode cL_law 1445 = .ok (.aload_n 0, 1) := by decide +kernel
theorem dL_law_1446 : decode cL_law 1446 = .ok (.iload 4, 2) := by decide +kernel
theorem dL_law_1448 : decode cL_law 1448 = .ok (.iconst 1, 1) := by decide +kernel
theorem dL_law_1449 : decode cL_law 1449 = .ok (.iadd, 1) := by decide +kernel
theorem dL_law_1450 : decode cL_law 1450 = .ok (.iaload, 1) := by decide +kernel
theorem dL_law_1451 : decode cL_law 1451 = .ok (.aload_n 0, 1) := by decide +kernel
theorem dL_law_1452 : decode cL_law 1452 = .ok (.iload 4, 2) := by decide +kernel
theorem dL_law_1454 : decode cL_law 1454 = .ok (.iconst 2, 1) := by decide +kernel
theorem dL_law_1455 : decode cL_law 1455 = .ok (.iadd, 1) := by decide +kernel
theorem dL_law_1456 : decode cL_law 1456 = .ok (.iaload, 1) := by decide +kernel
theorem dL_law_1457 : decode cL_law 1457 = .ok (.invokevirtual 184, 3) := by decide +kernel
theorem dL_law_1460 : decode cL_law 1460 = .ok (.istore 6, 2) := by decide +kernel
theorem dL_law_1462 : decode cL_law 1462 = .ok (.aload_n 2, 1) := by decide +kernel
theorem dL_law_1463 : decode cL_law 1463 = .ok (.invokevirtual 126, 3) := by decide +kernel
theorem dL_law_1466 : decode cL_law 1466 = .ok (.iload 5, 2) := by decide +kernel
theorem dL_law_1468 : decode cL_law 1468 = .ok (.if_icmp .eq 5, 3) := by decide +kernel
theorem dL_law_1471 : decode cL_law 1471 = .ok (.iconst 0, 1) := by decide +kernel
theorem dL_law_1472 : decode cL_law 1472 = .ok (.ireturn, 1) := by decide +kernel
theorem dL_law_1473 : decode cL_law 1473 = .ok (.iload 5, 2) := by decide +kernel
theorem dL_law_1475 : decode cL_law 1475 = .ok (.ifCond .ne 15, 3) := by decide +kernel
theorem dL_law_1478 : decode cL_law 1478 = .ok (.aload_n 3, 1) := by decide +kernel
theorem dL_law_1479 : decode cL_law 1479 = .ok (.iconst 0, 1) := by decide +kernel
theorem dL_law_1480 : decode cL_law 1480 = .ok (.laload, 1) := by decide +kernel
theorem dL_law_1481 : decode cL_law 1481 = .ok (.iload 6, 2) := by decide +kernel
theorem dL_law_1483 : decode cL_law 1483 = .ok (.i2l, 1) := by decide +kernel
theorem dL_law_1484 : decode cL_law 1484 = .ok (.lcmp, 1) := by decide +kernel
theorem dL_law_1485 : decode cL_law 1485 = .ok (.ifCond .eq 5, 3) := by decide +kernel
theorem dL_law_1488 : decode cL_law 1488 = .ok (.iconst 0, 1) := by decide +kernel
theorem dL_law_1489 : decode cL_law 1489 = .ok (.ireturn, 1) := by decide +kernel
theorem dL_law_1490 : decode cL_law 1490 = .ok (.goto 979, 3) := by decide +kernel
theorem dL_law_1493 : decode cL_law 1493 = .ok (.aload_n 1, 1) := by decide +kernel
theorem dL_law_1494 : decode cL_law 1494 = .ok (.aload_n 0, 1) := by decide +kernel
theorem dL_law_1495 : decode cL_law 1495 = .ok (.iload 4, 2) := by decide +kernel
theorem dL_law_1497 : decode cL_law 1497 = .ok (.iconst 1, 1) := by decide +kernel
theorem dL_law_1498 : decode cL_law 1498 = .ok (.iadd, 1) := by decide +kernel
theorem dL_law_1499 : decode cL_law 1499 = .ok (.iaload, 1) := by decide +kernel
theorem dL_law_1500 : decode cL_law 1500 = .ok (.aload_n 0, 1) := by decide +kernel
theorem dL_law_1501 : decode cL_law 1501 = .ok (.iload 4, 2) := by decide +kernel
theorem dL_law_1503 : decode cL_law 1503 = .ok (.iconst 2, 1) := by decide +kernel
theorem dL_law_1504 : decode cL_law 1504 = .ok (.iadd, 1) := by decide +kernel
theorem dL_law_1505 : decode cL_law 1505 = .ok (.iaload, 1) := by decide +kernel
theorem dL_law_1506 : decode cL_law 1506 = .ok (.aload_n 0, 1) := by decide +kernel
theorem dL_law_1507 : decode cL_law 1507 = .ok (.iload 4, 2) := by decide +kernel
theorem dL_law_1509 : decode cL_law 1509 = .ok (.iconst 3, 1) := by decide +kernel
theorem dL_law_1510 : decode cL_law 1510 = .ok (.iadd, 1) := by decide +kernel
theorem dL_law_1511 : decode cL_law 1511 = .ok (.iaload, 1) := by decide +kernel
theorem dL_law_1512 : decode cL_law 1512 = .ok (.aload_n 0, 1) := by decide +kernel
theorem dL_law_1513 : decode cL_law 1513 = .ok (.iload 4, 2) := by decide +kernel
theorem dL_law_1515 : decode cL_law 1515 = .ok (.iconst 4, 1) := by decide +kernel
theorem dL_law_1516 : decode cL_law 1516 = .ok (.iadd, 1) := by decide +kernel
theorem dL_law_1517 : decode cL_law 1517 = .ok (.iaload, 1) := by decide +kernel
theorem dL_law_1518 : decode cL_law 1518 = .ok (.aload_n 3, 1) := by decide +kernel
theorem dL_law_1519 : decode cL_law 1519 = .ok (.invokestatic 185, 3) := by decide +kernel
theorem dL_law_1522 : decode cL_law 1522 = .ok (.istore 5, 2) := by decide +kernel
theorem dL_law_1524 : decode cL_law 1524 = .ok (.aload_n 2, 1) := by decide +kernel
theorem dL_law_1525 : decode cL_law 1525 = .ok (.aload_n 0, 1) := by decide +kernel
theorem dL_law_1526 : decode cL_law 1526 = .ok (.iload 4, 2) := by decide +kernel
theorem dL_law_1528 : decode cL_law 1528 = .ok (.iconst 1, 1) := by decide +kernel
theorem dL_law_1529 : decode cL_law 1529 = .ok (.iadd, 1) := by decide +kernel
theorem dL_law_1530 : decode cL_law 1530 = .ok (.iaload, 1) := by decide +kernel
theorem dL_law_1531 : decode cL_law 1531 = .ok (.aload_n 0, 1) := by decide +kernel
theorem dL_law_1532 : decode cL_law 1532 = .ok (.iload 4, 2) := by decide +kernel
theorem dL_law_1534 : decode cL_law 1534 = .ok (.iconst 2, 1) := by decide +kernel
theorem dL_law_1535 : decode cL_law 1535 = .ok (.iadd, 1) := by decide +kernel
theorem dL_law_1536 : decode cL_law 1536 = .ok (.iaload, 1) := by decide +kernel
theorem dL_law_1537 : decode cL_law 1537 = .ok (.aload_n 0, 1) := by decide +kernel
theorem dL_law_1538 : decode cL_law 1538 = .ok (.iload 4, 2) := by decide +kernel
theorem dL_law_1540 : decode cL_law 1540 = .ok (.iconst 3, 1) := by decide +kernel
theorem dL_law_1541 : decode cL_law 1541 = .ok (.iadd, 1) := by decide +kernel
theorem dL_law_1542 : decode cL_law 1542 = .ok (.iaload, 1) := by decide +kernel
theorem dL_law_1543 : decode cL_law 1543 = .ok (.aload_n 0, 1) := by decide +kernel
theorem dL_law_1544 : decode cL_law 1544 = .ok (.iload 4, 2) := by decide +kernel
theorem dL_law_1546 : decode cL_law 1546 = .ok (.iconst 4, 1) := by decide +kernel
theorem dL_law_1547 : decode cL_law 1547 = .ok (.iadd, 1) := by decide +kernel
theorem dL_law_1548 : decode cL_law 1548 = .ok (.iaload, 1) := by decide +kernel
theorem dL_law_1549 : decode cL_law 1549 = .ok (.invokevirtual 187, 3) := by decide +kernel
theorem dL_law_1552 : decode cL_law 1552 = .ok (.istore 6, 2) := by decide +kernel
theorem dL_law_1554 : decode cL_law 1554 = .ok (.aload_n 2, 1) := by decide +kernel
theorem dL_law_1555 : decode cL_law 1555 = .ok (.invokevirtual 126, 3) := by decide +kernel
theorem dL_law_1558 : decode cL_law 1558 = .ok (.iload 5, 2) := by decide +kernel
theorem dL_law_1560 : decode cL_law 1560 = .ok (.if_icmp .eq 5, 3) := by decide +kernel
theorem dL_law_1563 : decode cL_law 1563 = .ok (.iconst 0, 1) := by decide +kernel
theorem dL_law_1564 : decode cL_law 1564 = .ok (.ireturn, 1) := by decide +kernel
theorem dL_law_1565 : decode cL_law 1565 = .ok (.iload 5, 2) := by decide +kernel
theorem dL_law_1567 : decode cL_law 1567 = .ok (.ifCond .ne 15, 3) := by decide +kernel
theorem dL_law_1570 : decode cL_law 1570 = .ok (.aload_n 3, 1) := by decide +kernel
theorem dL_law_1571 : decode cL_law 1571 = .ok (.iconst 0, 1) := by decide +kernel
theorem dL_law_1572 : decode cL_law 1572 = .ok (.laload, 1) := by decide +kernel
theorem dL_law_1573 : decode cL_law 1573 = .ok (.iload 6, 2) := by decide +kernel
theorem dL_law_1575 : decode cL_law 1575 = .ok (.i2l, 1) := by decide +kernel
theorem dL_law_1576 : decode cL_law 1576 = .ok (.lcmp, 1) := by decide +kernel
theorem dL_law_1577 : decode cL_law 1577 = .ok (.ifCond .eq 5, 3) := by decide +kernel
theorem dL_law_1580 : decode cL_law 1580 = .ok (.iconst 0, 1) := by decide +kernel
theorem dL_law_1581 : decode cL_law 1581 = .ok (.ireturn, 1) := by decide +kernel
theorem dL_law_1582 : decode cL_law 1582 = .ok (.goto 887, 3) := by decide +kernel
theorem dL_law_1585 : decode cL_law 1585 = .ok (.aload_n 1, 1) := by decide +kernel
theorem dL_law_1586 : decode cL_law 1586 = .ok (.aload_n 0, 1) := by decide +kernel
theorem dL_law_1587 : decode cL_law 1587 = .ok (.iload 4, 2) := by decide +kernel
theorem dL_law_1589 : decode cL_law 1589 = .ok (.iconst 1, 1) := by decide +kernel
theorem dL_law_1590 : decode cL_law 1590 = .ok (.iadd, 1) := by decide +kernel
theorem dL_law_1591 : decode cL_law 1591 = .ok (.iaload, 1) := by decide +kernel
theorem dL_law_1592 : decode cL_law 1592 = .ok (.aload_n 0, 1) := by decide +kernel
theorem dL_law_1593 : decode cL_law 1593 = .ok (.iload 4, 2) := by decide +kernel
theorem dL_law_1595 : decode cL_law 1595 = .ok (.iconst 2, 1) := by decide +kernel
theorem dL_law_1596 : decode cL_law 1596 = .ok (.iadd, 1) := by decide +kernel
theorem dL_law_1597 : decode cL_law 1597 = .ok (.iaload, 1) := by decide +kernel
theorem dL_law_1598 : decode cL_law 1598 = .ok (.aload_n 0, 1) := by decide +kernel
theorem dL_law_1599 : decode cL_law 1599 = .ok (.iload 4, 2) := by decide +kernel
theorem dL_law_1601 : decode cL_law 1601 = .ok (.iconst 3, 1) := by decide +kernel
theorem dL_law_1602 : decode cL_law 1602 = .ok (.iadd, 1) := by decide +kernel
theorem dL_law_1603 : decode cL_law 1603 = .ok (.iaload, 1) := by decide +kernel
theorem dL_law_1604 : decode cL_law 1604 = .ok (.aload_n 3, 1) := by decide +kernel
theorem dL_law_1605 : decode cL_law 1605 = .ok (.invokestatic 188, 3) := by decide +kernel
theorem dL_law_1608 : decode cL_law 1608 = .ok (.istore 5, 2) := by decide +kernel
theorem dL_law_1610 : decode cL_law 1610 = .ok (.aload_n 2, 1) := by decide +kernel
theorem dL_law_1611 : decode cL_law 1611 = .ok (.aload_n 0, 1) := by decide +kernel
theorem dL_law_1612 : decode cL_law 1612 = .ok (.iload 4, 2) := by decide +kernel
theorem dL_law_1614 : decode cL_law 1614 = .ok (.iconst 1, 1) := by decide +kernel
theorem dL_law_1615 : decode cL_law 1615 = .ok (.iadd, 1) := by decide +kernel
theorem dL_law_1616 : decode cL_law 1616 = .ok (.iaload, 1) := by decide +kernel
theorem dL_law_1617 : decode cL_law 1617 = .ok (.aload_n 0, 1) := by decide +kernel
theorem dL_law_1618 : decode cL_law 1618 = .ok (.iload 4, 2) := by decide +kernel
theorem dL_law_1620 : decode cL_law 1620 = .ok (.iconst 2, 1) := by decide +kernel
theorem dL_law_1621 : decode cL_law 1621 = .ok (.iadd, 1) := by decide +kernel
theorem dL_law_1622 : decode cL_law 1622 = .ok (.iaload, 1) := by decide +kernel
theorem dL_law_1623 : decode cL_law 1623 = .ok (.aload_n 0, 1) := by decide +kernel
theorem dL_law_1624 : decode cL_law 1624 = .ok (.iload 4, 2) := by decide +kernel
theorem dL_law_1626 : decode cL_law 1626 = .ok (.iconst 3, 1) := by decide +kernel
theorem dL_law_1627 : decode cL_law 1627 = .ok (.iadd, 1) := by decide +kernel
theorem dL_law_1628 : decode cL_law 1628 = .ok (.iaload, 1) := by decide +kernel
theorem dL_law_1629 : decode cL_law 1629 = .ok (.invokevirtual 190, 3) := by decide +kernel
theorem dL_law_1632 : decode cL_law 1632 = .ok (.istore 6, 2) := by decide +kernel
theorem dL_law_1634 : decode cL_law 1634 = .ok (.aload_n 2, 1) := by decide +kernel
theorem dL_law_1635 : decode cL_law 1635 = .ok (.invokevirtual 126, 3) := by decide +kernel
theorem dL_law_1638 : decode cL_law 1638 = .ok (.iload 5, 2) := by decide +kernel
theorem dL_law_1640 : decode cL_law 1640 = .ok (.if_icmp .eq 5, 3) := by decide +kernel
theorem dL_law_1643 : decode cL_law 1643 = .ok (.iconst 0, 1) := by decide +kernel
theorem dL_law_1644 : decode cL_law 1644 = .ok (.ireturn, 1) := by decide +kernel
theorem dL_law_1645 : decode cL_law 1645 = .ok (.iload 5, 2) := by decide +kernel
theorem dL_law_1647 : decode cL_law 1647 = .ok (.ifCond .ne 15, 3) := by decide +kernel
theorem dL_law_1650 : decode cL_law 1650 = .ok (.aload_n 3, 1) := by decide +kernel
theorem dL_law_1651 : decode cL_law 1651 = .ok (.iconst 0, 1) := by decide +kernel
theorem dL_law_1652 : decode cL_law 1652 = .ok (.laload, 1) := by decide +kernel
theorem dL_law_1653 : decode cL_law 1653 = .ok (.iload 6, 2) := by decide +kernel
theorem dL_law_1655 : decode cL_law 1655 = .ok (.i2l, 1) := by decide +kernel
theorem dL_law_1656 : decode cL_law 1656 = .ok (.lcmp, 1) := by decide +kernel
theorem dL_law_1657 : decode cL_law 1657 = .ok (.ifCond .eq 5, 3) := by decide +kernel
theorem dL_law_1660 : decode cL_law 1660 = .ok (.iconst 0, 1) := by decide +kernel
theorem dL_law_1661 : decode cL_law 1661 = .ok (.ireturn, 1) := by decide +kernel
theorem dL_law_1662 : decode cL_law 1662 = .ok (.goto 807, 3) := by decide +kernel
theorem dL_law_1665 : decode cL_law 1665 = .ok (.aload_n 1, 1) := by decide +kernel
theorem dL_law_1666 : decode cL_law 1666 = .ok (.aload_n 0, 1) := by decide +kernel
theorem dL_law_1667 : decode cL_law 1667 = .ok (.iload 4, 2) := by decide +kernel
theorem dL_law_1669 : decode cL_law 1669 = .ok (.iconst 1, 1) := by decide +kernel
theorem dL_law_1670 : decode cL_law 1670 = .ok (.iadd, 1) := by decide +kernel
theorem dL_law_1671 : decode cL_law 1671 = .ok (.iaload, 1) := by decide +kernel
theorem dL_law_1672 : decode cL_law 1672 = .ok (.aload_n 0, 1) := by decide +kernel
theorem dL_law_1673 : decode cL_law 1673 = .ok (.iload 4, 2) := by decide +kernel
theorem dL_law_1675 : decode cL_law 1675 = .ok (.iconst 2, 1) := by decide +kernel
end
section
theorem dL_law_1676 : decode cL_law 1676 = .ok (.iadd, 1) := by decide +kernel
theorem dL_law_1677 : decode cL_law 1677 = .ok (.iaload, 1) := by decide +kernel
theorem dL_law_1678 : decode cL_law 1678 = .ok (.aload_n 0, 1) := by decide +kernel
theorem dL_law_1679 : decode cL_law 1679 = .ok (.iload 4, 2) := by decide +kernel
theorem dL_law_1681 : decode cL_law 1681 = .ok (.iconst 3, 1) := by decide +kernel
theorem dL_law_1682 : decode cL_law 1682 = .ok (.iadd, 1) := by decide +kernel
theorem dL_law_1683 : decode cL_law 1683 = .ok (.iaload, 1) := by decide +kernel
theorem dL_law_1684 : decode cL_law 1684 = .ok (.aload_n 3, 1) := by decide +kernel
theorem dL_law_1685 : decode cL_law 1685 = .ok (.invokestatic 191, 3) := by decide +kernel
theorem dL_law_1688 : decode cL_law 1688 = .ok (.istore 5, 2) := by decide +kernel
theorem dL_law_1690 : decode cL_law 1690 = .ok (.aload_n 2, 1) := by decide +kernel
theorem dL_law_1691 : decode cL_law 1691 = .ok (.aload_n 0, 1) := by decide +kernel
theorem dL_law_1692 : decode cL_law 1692 = .ok (.iload 4, 2) := by decide +kernel
theorem dL_law_1694 : decode cL_law 1694 = .ok (.iconst 1, 1) := by decide +kernel
theorem dL_law_1695 : decode cL_law 1695 = .ok (.iadd, 1) := by decide +kernel
theorem dL_law_1696 : decode cL_law 1696 = .ok (.iaload, 1) := by decide +kernel
theorem dL_law_1697 : decode cL_law 1697 = .ok (.aload_n 0, 1) := by decide +kernel
theorem dL_law_1698 : decode cL_law 1698 = .ok (.iload 4, 2) := by decide +kernel
theorem dL_law_1700 : decode cL_law 1700 = .ok (.iconst 2, 1) := by decide +kernel
theorem dL_law_1701 : decode cL_law 1701 = .ok (.iadd, 1) := by decide +kernel
theorem dL_law_1702 : decode cL_law 1702 = .ok (.iaload, 1) := by decide +kernel
theorem dL_law_1703 : decode cL_law 1703 = .ok (.aload_n 0, 1) := by decide +kernel
theorem dL_law_1704 : decode cL_law 1704 = .ok (.iload 4, 2) := by decide +kernel
theorem dL_law_1706 : decode cL_law 1706 = .ok (.iconst 3, 1) := by decide +kernel
theorem dL_law_1707 : decode cL_law 1707 = .ok (.iadd, 1) := by decide +kernel
theorem dL_law_1708 : decode cL_law 1708 = .ok (.iaload, 1) := by decide +kernel
theorem dL_law_1709 : decode cL_law 1709 = .ok (.invokevirtual 193, 3) := by decide +kernel
theorem dL_law_1712 : decode cL_law 1712 = .ok (.istore 6, 2) := by decide +kernel
theorem dL_law_1714 : decode cL_law 1714 = .ok (.aload_n 2, 1) := by decide +kernel
theorem dL_law_1715 : decode cL_law 1715 = .ok (.invokevirtual 126, 3) := by decide +kernel
theorem dL_law_1718 : decode cL_law 1718 = .ok (.iload 5, 2) := by decide +kernel
theorem dL_law_1720 : decode cL_law 1720 = .ok (.if_icmp .eq 5, 3) := by decide +kernel
theorem dL_law_1723 : decode cL_law 1723 = .ok (.iconst 0, 1) := by decide +kernel
theorem dL_law_1724 : decode cL_law 1724 = .ok (.ireturn, 1) := by decide +kernel
theorem dL_law_1725 : decode cL_law 1725 = .ok (.iload 5, 2) := by decide +kernel
theorem dL_law_1727 : decode cL_law 1727 = .ok (.ifCond .ne 15, 3) := by decide +kernel
theorem dL_law_1730 : decode cL_law 1730 = .ok (.aload_n 3, 1) := by decide +kernel
theorem dL_law_1731 : decode cL_law 1731 = .ok (.iconst 0, 1) := by decide +kernel
theorem dL_law_1732 : decode cL_law 1732 = .ok (.laload, 1) := by decide +kernel
theorem dL_law_1733 : decode cL_law 1733 = .ok (.iload 6, 2) := by decide +kernel
theorem dL_law_1735 : decode cL_law 1735 = .ok (.i2l, 1) := by decide +kernel
theorem dL_law_1736 : decode cL_law 1736 = .ok (.lcmp, 1) := by decide +kernel
theorem dL_law_1737 : decode cL_law 1737 = .ok (.ifCond .eq 5, 3) := by decide +kernel
theorem dL_law_1740 : decode cL_law 1740 = .ok (.iconst 0, 1) := by decide +kernel
theorem dL_law_1741 : decode cL_law 1741 = .ok (.ireturn, 1) := by decide +kernel
theorem dL_law_1742 : decode cL_law 1742 = .ok (.goto 727, 3) := by decide +kernel
theorem dL_law_1745 : decode cL_law 1745 = .ok (.aload_n 1, 1) := by decide +kernel
theorem dL_law_1746 : decode cL_law 1746 = .ok (.aload_n 0, 1) := by decide +kernel
theorem dL_law_1747 : decode cL_law 1747 = .ok (.iload 4, 2) := by decide +kernel
theorem dL_law_1749 : decode cL_law 1749 = .ok (.iconst 1, 1) := by decide +kernel
theorem dL_law_1750 : decode cL_law 1750 = .ok (.iadd, 1) := by decide +kernel
theorem dL_law_1751 : decode cL_law 1751 = .ok (.iaload, 1) := by decide +kernel
theorem dL_law_1752 : decode cL_law 1752 = .ok (.aload_n 0, 1) := by decide +kernel
theorem dL_law_1753 : decode cL_law 1753 = .ok (.iload 4, 2) := by decide +kernel
theorem dL_law_1755 : decode cL_law 1755 = .ok (.iconst 2, 1) := by decide +kernel
theorem dL_law_1756 : decode cL_law 1756 = .ok (.iadd, 1) := by decide +kernel
theorem dL_law_1757 : decode cL_law 1757 = .ok (.iaload, 1) := by decide +kernel
theorem dL_law_1758 : decode cL_law 1758 = .ok (.aload_n 0, 1) := by decide +kernel
theorem dL_law_1759 : decode cL_law 1759 = .ok (.iload 4, 2) := by decide +kernel
theorem dL_law_1761 : decode cL_law 1761 = .ok (.iconst 3, 1) := by decide +kernel
theorem dL_law_1762 : decode cL_law 1762 = .ok (.iadd, 1) := by decide +kernel
theorem dL_law_1763 : decode cL_law 1763 = .ok (.iaload, 1) := by decide +kernel
theorem dL_law_1764 : decode cL_law 1764 = .ok (.ifCond .eq 7, 3) := by decide +kernel
theorem dL_law_1767 : decode cL_law 1767 = .ok (.iconst 1, 1) := by decide +kernel
theorem dL_law_1768 : decode cL_law 1768 = .ok (.goto 4, 3) := by decide +kernel
theorem dL_law_1771 : decode cL_law 1771 = .ok (.iconst 0, 1) := by decide +kernel
theorem dL_law_1772 : decode cL_law 1772 = .ok (.aload_n 3, 1) := by decide +kernel
theorem dL_law_1773 : decode cL_law 1773 = .ok (.invokestatic 194, 3) := by decide +kernel
theorem dL_law_1776 : decode cL_law 1776 = .ok (.istore 5, 2) := by decide +kernel
theorem dL_law_1778 : decode cL_law 1778 = .ok (.aload_n 2, 1) := by decide +kernel
theorem dL_law_1779 : decode cL_law 1779 = .ok (.aload_n 0, 1) := by decide +kernel
theorem dL_law_1780 : decode cL_law 1780 = .ok (.iload 4, 2) := by decide +kernel
theorem dL_law_1782 : decode cL_law 1782 = .ok (.iconst 1, 1) := by decide +kernel
theorem dL_law_1783 : decode cL_law 1783 = .ok (.iadd, 1) := by decide +kernel
theorem dL_law_1784 : decode cL_law 1784 = .ok (.iaload, 1) := by decide +kernel
theorem dL_law_1785 : decode cL_law 1785 = .ok (.aload_n 0, 1) := by decide +kernel
theorem dL_law_1786 : decode cL_law 1786 = .ok (.iload 4, 2) := by decide +kernel
theorem dL_law_1788 : decode cL_law 1788 = .ok (.iconst 2, 1) := by decide +kernel
theorem dL_law_1789 : decode cL_law 1789 = .ok (.iadd, 1) := by decide +kernel
theorem dL_law_1790 : decode cL_law 1790 = .ok (.iaload, 1) := by decide +kernel
theorem dL_law_1791 : decode cL_law 1791 = .ok (.aload_n 0, 1) := by decide +kernel
theorem dL_law_1792 : decode cL_law 1792 = .ok (.iload 4, 2) := by decide +kernel
theorem dL_law_1794 : decode cL_law 1794 = .ok (.iconst 3, 1) := by decide +kernel
theorem dL_law_1795 : decode cL_law 1795 = .ok (.iadd, 1) := by decide +kernel
theorem dL_law_1796 : decode cL_law 1796 = .ok (.iaload, 1) := by decide +kernel
theorem dL_law_1797 : decode cL_law 1797 = .ok (.ifCond .eq 7, 3) := by decide +kernel
theorem dL_law_1800 : decode cL_law 1800 = .ok (.iconst 1, 1) := by decide +kernel
theorem dL_law_1801 : decode cL_law 1801 = .ok (.goto 4, 3) := by decide +kernel
theorem dL_law_1804 : decode cL_law 1804 = .ok (.iconst 0, 1) := by decide +kernel
theorem dL_law_1805 : decode cL_law 1805 = .ok (.invokevirtual 197, 3) := by decide +kernel
theorem dL_law_1808 : decode cL_law 1808 = .ok (.istore 6, 2) := by decide +kernel
theorem dL_law_1810 : decode cL_law 1810 = .ok (.aload_n 2, 1) := by decide +kernel
theorem dL_law_1811 : decode cL_law 1811 = .ok (.invokevirtual 126, 3) := by decide +kernel
theorem dL_law_1814 : decode cL_law 1814 = .ok (.iload 5, 2) := by decide +kernel
theorem dL_law_1816 : decode cL_law 1816 = .ok (.if_icmp .eq 5, 3) := by decide +kernel
theorem dL_law_1819 : decode cL_law 1819 = .ok (.iconst 0, 1) := by decide +kernel
theorem dL_law_1820 : decode cL_law 1820 = .ok (.ireturn, 1) := by decide +kernel
theorem dL_law_1821 : decode cL_law 1821 = .ok (.iload 5, 2) := by decide +kernel
theorem dL_law_1823 : decode cL_law 1823 = .ok (.ifCond .ne 15, 3) := by decide +kernel
theorem dL_law_1826 : decode cL_law 1826 = .ok (.aload_n 3, 1) := by decide +kernel
theorem dL_law_1827 : decode cL_law 1827 = .ok (.iconst 0, 1) := by decide +kernel
theorem dL_law_1828 : decode cL_law 1828 = .ok (.laload, 1) := by decide +kernel
theorem dL_law_1829 : decode cL_law 1829 = .ok (.iload 6, 2) := by decide +kernel
theorem dL_law_1831 : decode cL_law 1831 = .ok (.i2l, 1) := by decide +kernel
theorem dL_law_1832 : decode cL_law 1832 = .ok (.lcmp, 1) := by decide +kernel
theorem dL_law_1833 : decode cL_law 1833 = .ok (.ifCond .eq 5, 3) := by decide +kernel
theorem dL_law_1836 : decode cL_law 1836 = .ok (.iconst 0, 1) := by decide +kernel
theorem dL_law_1837 : decode cL_law 1837 = .ok (.ireturn, 1) := by decide +kernel
theorem dL_law_1838 : decode cL_law 1838 = .ok (.goto 631, 3) := by decide +kernel
theorem dL_law_1841 : decode cL_law 1841 = .ok (.aload_n 1, 1) := by decide +kernel
theorem dL_law_1842 : decode cL_law 1842 = .ok (.aload_n 0, 1) := by decide +kernel
theorem dL_law_1843 : decode cL_law 1843 = .ok (.iload 4, 2) := by decide +kernel
theorem dL_law_1845 : decode cL_law 1845 = .ok (.iconst 1, 1) := by decide +kernel
theorem dL_law_1846 : decode cL_law 1846 = .ok (.iadd, 1) := by decide +kernel
theorem dL_law_1847 : decode cL_law 1847 = .ok (.iaload, 1) := by decide +kernel
theorem dL_law_1848 : decode cL_law 1848 = .ok (.aload_n 3, 1) := by decide +kernel
theorem dL_law_1849 : decode cL_law 1849 = .ok (.invokestatic 198, 3) := by decide +kernel
theorem dL_law_1852 : decode cL_law 1852 = .ok (.istore 5, 2) := by decide +kernel
theorem dL_law_1854 : decode cL_law 1854 = .ok (.aload_n 2, 1) := by decide +kernel
theorem dL_law_1855 : decode cL_law 1855 = .ok (.aload_n 0, 1) := by decide +kernel
theorem dL_law_1856 : decode cL_law 1856 = .ok (.iload 4, 2) := by decide +kernel
theorem dL_law_1858 : decode cL_law 1858 = .ok (.iconst 1, 1) := by decide +kernel
theorem dL_law_1859 : decode cL_law 1859 = .ok (.iadd, 1) := by decide +kernel
theorem dL_law_1860 : decode cL_law 1860 = .ok (.iaload, 1) := by decide +kernel
theorem dL_law_1861 : decode cL_law 1861 = .ok (.invokevirtual 200, 3) := by decide +kernel
theorem dL_law_1864 : decode cL_law 1864 = .ok (.istore 6, 2) := by decide +kernel
theorem dL_law_1866 : decode cL_law 1866 = .ok (.aload_n 2, 1) := by decide +kernel
theorem dL_law_1867 : decode cL_law 1867 = .ok (.invokevirtual 126, 3) := by decide +kernel
theorem dL_law_1870 : decode cL_law 1870 = .ok (.iload 5, 2) := by decide +kernel
theorem dL_law_1872 : decode cL_law 1872 = .ok (.if_icmp .eq 5, 3) := by decide +kernel
theorem dL_law_1875 : decode cL_law 1875 = .ok (.iconst 0, 1) := by decide +kernel
theorem dL_law_1876 : decode cL_law 1876 = .ok (.ireturn, 1) := by decide +kernel
theorem dL_law_1877 : decode cL_law 1877 = .ok (.iload 5, 2) := by decide +kernel
theorem dL_law_1879 : decode cL_law 1879 = .ok (.ifCond .ne 15, 3) := by decide +kernel
theorem dL_law_1882 : decode cL_law 1882 = .ok (.aload_n 3, 1) := by decide +kernel
theorem dL_law_1883 : decode cL_law 1883 = .ok (.iconst 0, 1) := by decide +kernel
theorem dL_law_1884 : decode cL_law 1884 = .ok (.laload, 1) := by decide +kernel
theorem dL_law_1885 : decode cL_law 1885 = .ok (.iload 6, 2) := by decide +kernel
theorem dL_law_1887 : decode cL_law 1887 = .ok (.i2l, 1) := by decide +kernel
theorem dL_law_1888 : decode cL_law 1888 = .ok (.lcmp, 1) := by decide +kernel
theorem dL_law_1889 : decode cL_law 1889 = .ok (.ifCond .eq 5, 3) := by decide +kernel
theorem dL_law_1892 : decode cL_law 1892 = .ok (.iconst 0, 1) := by decide +kernel
theorem dL_law_1893 : decode cL_law 1893 = .ok (.ireturn, 1) := by decide +kernel
theorem dL_law_1894 : decode cL_law 1894 = .ok (.goto 575, 3) := by decide +kernel
theorem dL_law_1897 : decode cL_law 1897 = .ok (.aload_n 1, 1) := by decide +kernel
theorem dL_law_1898 : decode cL_law 1898 = .ok (.invokevirtual 201, 3) := by decide +kernel
theorem dL_law_1901 : decode cL_law 1901 = .ok (.aload_n 2, 1) := by decide +kernel
theorem dL_law_1902 : decode cL_law 1902 = .ok (.invokevirtual 204, 3) := by decide +kernel
theorem dL_law_1905 : decode cL_law 1905 = .ok (.if_icmp .eq 564, 3) := by decide +kernel
theorem dL_law_1908 : decode cL_law 1908 = .ok (.iconst 0, 1) := by decide +kernel
theorem dL_law_1909 : decode cL_law 1909 = .ok (.ireturn, 1) := by decide +kernel
theorem dL_law_1910 : decode cL_law 1910 = .ok (.aload_n 1, 1) := by decide +kernel
theorem dL_law_1911 : decode cL_law 1911 = .ok (.aload_n 0, 1) := by decide +kernel
theorem dL_law_1912 : decode cL_law 1912 = .ok (.iload 4, 2) := by decide +kernel
theorem dL_law_1914 : decode cL_law 1914 = .ok (.iconst 1, 1) := by decide +kernel
theorem dL_law_1915 : decode cL_law 1915 = .ok (.iadd, 1) := by decide +kernel
theorem dL_law_1916 : decode cL_law 1916 = .ok (.iaload, 1) := by decide +kernel
theorem dL_law_1917 : decode cL_law 1917 = .ok (.aload_n 0, 1) := by decide +kernel
theorem dL_law_1918 : decode cL_law 1918 = .ok (.iload 4, 2) := by decide +kernel
theorem dL_law_1920 : decode cL_law 1920 = .ok (.iconst 2, 1) := by decide +kernel
theorem dL_law_1921 : decode cL_law 1921 = .ok (.iadd, 1) := by decide +kernel
theorem dL_law_1922 : decode cL_law 1922 = .ok (.iaload, 1) := by decide +kernel
theorem dL_law_1923 : decode cL_law 1923 = .ok (.aload_n 3, 1) := by decide +kernel
theorem dL_law_1924 : decode cL_law 1924 = .ok (.invokestatic 205, 3) := by decide +kernel
theorem dL_law_1927 : decode cL_law 1927 = .ok (.istore 5, 2) := by decide +kernel
theorem dL_law_1929 : decode cL_law 1929 = .ok (.aload_n 2, 1) := by decide +kernel
theorem dL_law_1930 : decode cL_law 1930 = .ok (.aload_n 0, 1) := by decide +kernel
theorem dL_law_1931 : decode cL_law 1931 = .ok (.iload 4, 2) := by decide +kernel
theorem dL_law_1933 : decode cL_law 1933 = .ok (.iconst 1, 1) := by decide +kernel
theorem dL_law_1934 : decode cL_law 1934 = .ok (.iadd, 1) := by decide +kernel
theorem dL_law_1935 : decode cL_law 1935 = .ok (.iaload, 1) := by decide +kernel
theorem dL_law_1936 : decode cL_law 1936 = .ok (.aload_n 0, 1) := by decide +kernel
theorem dL_law_1937 : decode cL_law 1937 = .ok (.iload 4, 2) := by decide +kernel
theorem dL_law_1939 : decode cL_law 1939 = .ok (.iconst 2, 1) := by decide +kernel
theorem dL_law_1940 : decode cL_law 1940 = .ok (.iadd, 1) := by decide +kernel
theorem dL_law_1941 : decode cL_law 1941 = .ok (.iaload, 1) := by decide +kernel
theorem dL_law_1942 : decode cL_law 1942 = .ok (.invokevirtual 207, 3) := by decide +kernel
theorem dL_law_1945 : decode cL_law 1945 = .ok (.istore 6, 2) := by decide +kernel
theorem dL_law_1947 : decode cL_law 1947 = .ok (.aload_n 2, 1) := by decide +kernel
theorem dL_law_1948 : decode cL_law 1948 = .ok (.invokevirtual 126, 3) := by decide +kernel
theorem dL_law_1951 : decode cL_law 1951 = .ok (.iload 5, 2) := by decide +kernel
theorem dL_law_1953 : decode cL_law 1953 = .ok (.if_icmp .eq 5, 3) := by decide +kernel
theorem dL_law_1956 : decode cL_law 1956 = .ok (.iconst 0, 1) := by decide +kernel
theorem dL_law_1957 : decode cL_law 1957 = .ok (.ireturn, 1) := by decide +kernel
theorem dL_law_1958 : decode cL_law 1958 = .ok (.iload 5, 2) := by decide +kernel
theorem dL_law_1960 : decode cL_law 1960 = .ok (.ifCond .ne 22, 3) := by decide +kernel
theorem dL_law_1963 : decode cL_law 1963 = .ok (.aload_n 3, 1) := by decide +kernel
theorem dL_law_1964 : decode cL_law 1964 = .ok (.iconst 0, 1) := by decide +kernel
theorem dL_law_1965 : decode cL_law 1965 = .ok (.laload, 1) := by decide +kernel
theorem dL_law_1966 : decode cL_law 1966 = .ok (.iload 6, 2) := by decide +kernel
theorem dL_law_1968 : decode cL_law 1968 = .ok (.ifCond .eq 7, 3) := by decide +kernel
theorem dL_law_1971 : decode cL_law 1971 = .ok (.lconst 1, 1) := by decide +kernel
theorem dL_law_1972 : decode cL_law 1972 = .ok (.goto 4, 3) := by decide +kernel
theorem dL_law_1975 : decode cL_law 1975 = .ok (.lconst 0, 1) := by decide +kernel
theorem dL_law_1976 : decode cL_law 1976 = .ok (.lcmp, 1) := by decide +kernel
theorem dL_law_1977 : decode cL_law 1977 = .ok (.ifCond .eq 5, 3) := by decide +kernel
theorem dL_law_1980 : decode cL_law 1980 = .ok (.iconst 0, 1) := by decide +kernel
theorem dL_law_1981 : decode cL_law 1981 = .ok (.ireturn, 1) := by decide +kernel
theorem dL_law_1982 : decode cL_law 1982 = .ok (.goto 487, 3) := by decide +kernel
theorem dL_law_1985 : decode cL_law 1985 = .ok (.aload_n 1, 1) := by decide +kernel
theorem dL_law_1986 : decode cL_law 1986 = .ok (.aload_n 0, 1) := by decide +kernel
theorem dL_law_1987 : decode cL_law 1987 = .ok (.iload 4, 2) := by decide +kernel
theorem dL_law_1989 : decode cL_law 1989 = .ok (.iconst 1, 1) := by decide +kernel
theorem dL_law_1990 : decode cL_law 1990 = .ok (.iadd, 1) := by decide +kernel
theorem dL_law_1991 : decode cL_law 1991 = .ok (.iaload, 1) := by decide +kernel
theorem dL_law_1992 : decode cL_law 1992 = .ok (.aload_n 0, 1) := by decide +kernel
theorem dL_law_1993 : decode cL_law 1993 = .ok (.iload 4, 2) := by decide +kernel
theorem dL_law_1995 : decode cL_law 1995 = .ok (.iconst 2, 1) := by decide +kernel
theorem dL_law_1996 : decode cL_law 1996 = .ok (.iadd, 1) := by decide +kernel
theorem dL_law_1997 : decode cL_law 1997 = .ok (.iaload, 1) := by decide +kernel
theorem dL_law_1998 : decode cL_law 1998 = .ok (.ifCond .eq 7, 3) := by decide +kernel
theorem dL_law_2001 : decode cL_law 2001 = .ok (.iconst 1, 1) := by decide +kernel
theorem dL_law_2002 : decode cL_law 2002 = .ok (.goto 4, 3) := by decide +kernel
theorem dL_law_2005 : decode cL_law 2005 = .ok (.iconst 0, 1) := by decide +kernel
theorem dL_law_2006 : decode cL_law 2006 = .ok (.aload_n 3, 1) := by decide +kernel
theorem dL_law_2007 : decode cL_law 2007 = .ok (.invokestatic 208, 3) := by decide +kernel
theorem dL_law_2010 : decode cL_law 2010 = .ok (.istore 5, 2) := by decide +kernel
theorem dL_law_2012 : decode cL_law 2012 = .ok (.aload_n 2, 1) := by decide +kernel
theorem dL_law_2013 : decode cL_law 2013 = .ok (.aload_n 0, 1) := by decide +kernel
theorem dL_law_2014 : decode cL_law 2014 = .ok (.iload 4, 2) := by decide +kernel
theorem dL_law_2016 : decode cL_law 2016 = .ok (.iconst 1, 1) := by decide +kernel
theorem dL_law_2017 : decode cL_law 2017 = .ok (.iadd, 1) := by decide +kernel
theorem dL_law_2018 : decode cL_law 2018 = .ok (.iaload, 1) := by decide +kernel
theorem dL_law_2019 : decode cL_law 2019 = .ok (.aload_n 0, 1) := by decide +kernel
theorem dL_law_2020 : decode cL_law 2020 = .ok (.iload 4, 2) := by decide +kernel
theorem dL_law_2022 : decode cL_law 2022 = .ok (.iconst 2, 1) := by decide +kernel
theorem dL_law_2023 : decode cL_law 2023 = .ok (.iadd, 1) := by decide +kernel
theorem dL_law_2024 : decode cL_law 2024 = .ok (.iaload, 1) := by decide +kernel
theorem dL_law_2025 : decode cL_law 2025 = .ok (.ifCond .eq 7, 3) := by decide +kernel
theorem dL_law_2028 : decode cL_law 2028 = .ok (.iconst 1, 1) := by decide +kernel
theorem dL_law_2029 : decode cL_law 2029 = .ok (.goto 4, 3) := by decide +kernel
theorem dL_law_2032 : decode cL_law 2032 = .ok (.iconst 0, 1) := by decide +kernel
theorem dL_law_2033 : decode cL_law 2033 = .ok (.invokevirtual 210, 3) := by decide +kernel
theorem dL_law_2036 : decode cL_law 2036 = .ok (.istore 6, 2) := by decide +kernel
theorem dL_law_2038 : decode cL_law 2038 = .ok (.aload_n 2, 1) := by decide +kernel
theorem dL_law_2039 : decode cL_law 2039 = .ok (.invokevirtual 126, 3) := by decide +kernel
theorem dL_law_2042 : decode cL_law 2042 = .ok (.iload 5, 2) := by decide +kernel
theorem dL_law_2044 : decode cL_law 2044 = .ok (.if_icmp .eq 5, 3) := by decide +kernel
theorem dL_law_2047 : decode cL_law 2047 = .ok (.iconst 0, 1) := by decide +kernel
theorem dL_law_2048 : decode cL_law 2048 = .ok (.ireturn, 1) := by decide +kernel
theorem dL_law_2049 : decode cL_law 2049 = .ok (.iload 5, 2) := by decide +kernel
theorem dL_law_2051 : decode cL_law 2051 = .ok (.ifCond .ne 15, 3) := by decide +kernel
theorem dL_law_2054 : decode cL_law 2054 = .ok (.aload_n 3, 1) := by decide +kernel
theorem dL_law_2055 : decode cL_law 2055 = .ok (.iconst 0, 1) := by decide +kernel
theorem dL_law_2056 : decode cL_law 2056 = .ok (.laload, 1) := by decide +kernel
theorem dL_law_2057 : decode cL_law 2057 = .ok (.iload 6, 2) := by decide +kernel
theorem dL_law_2059 : decode cL_law 2059 = .ok (.i2l, 1) := by decide +kernel
theorem dL_law_2060 : decode cL_law 2060 = .ok (.lcmp, 1) := by decide +kernel
theorem dL_law_2061 : decode cL_law 2061 = .ok (.ifCond .eq 5, 3) := by decide +kernel
theorem dL_law_2064 : decode cL_law 2064 = .ok (.iconst 0, 1) := by decide +kernel
theorem dL_law_2065 : decode cL_law 2065 = .ok (.ireturn, 1) := by decide +kernel
theorem dL_law_2066 : decode cL_law 2066 = .ok (.goto 403, 3) := by decide +kernel
theorem dL_law_2069 : decode cL_law 2069 = .ok (.aload_n 1, 1) := by decide +kernel
theorem dL_law_2070 : decode cL_law 2070 = .ok (.aload_n 0, 1) := by decide +kernel
theorem dL_law_2071 : decode cL_law 2071 = .ok (.iload 4, 2) := by decide +kernel
theorem dL_law_2073 : decode cL_law 2073 = .ok (.iconst 1, 1) := by decide +kernel
theorem dL_law_2074 : decode cL_law 2074 = .ok (.iadd, 1) := by decide +kernel
theorem dL_law_2075 : decode cL_law 2075 = .ok (.iaload, 1) := by decide +kernel
theorem dL_law_2076 : decode cL_law 2076 = .ok (.aload_n 3, 1) := by decide +kernel
theorem dL_law_2077 : decode cL_law 2077 = .ok (.invokestatic 211, 3) := by decide +kernel
theorem dL_law_2080 : decode cL_law 2080 = .ok (.istore 5, 2) := by decide +kernel
theorem dL_law_2082 : decode cL_law 2082 = .ok (.aload_n 2, 1) := by decide +kernel
theorem dL_law_2083 : decode cL_law 2083 = .ok (.aload_n 0, 1) := by decide +kernel
theorem dL_law_2084 : decode cL_law 2084 = .ok (.iload 4, 2) := by decide +kernel
theorem dL_law_2086 : decode cL_law 2086 = .ok (.iconst 1, 1) := by decide +kernel
theorem dL_law_2087 : decode cL_law 2087 = .ok (.iadd, 1) := by decide +kernel
theorem dL_law_2088 : decode cL_law 2088 = .ok (.iaload, 1) := by decide +kernel
theorem dL_law_2089 : decode cL_law 2089 = .ok (.invokevirtual 213, 3) := by decide +kernel
theorem dL_law_2092 : decode cL_law 2092 = .ok (.istore 6, 2) := by decide +kernel
theorem dL_law_2094 : decode cL_law 2094 = .ok (.aload_n 2, 1) := by decide +kernel
theorem dL_law_2095 : decode cL_law 2095 = .ok (.invokevirtual 126, 3) := by decide +kernel
theorem dL_law_2098 : decode cL_law 2098 = .ok (.iload 5, 2) := by decide +kernel
theorem dL_law_2100 : decode cL_law 2100 = .ok (.if_icmp .eq 5, 3) := by decide +kernel
theorem dL_law_2103 : decode cL_law 2103 = .ok (.iconst 0, 1) := by decide +kernel
theorem dL_law_2104 : decode cL_law 2104 = .ok (.ireturn, 1) := by decide +kernel
theorem dL_law_2105 : decode cL_law 2105 = .ok (.iload 5, 2) := by decide +kernel
theorem dL_law_2107 : decode cL_law 2107 = .ok (.ifCond .ne 15, 3) := by decide +kernel
theorem dL_law_2110 : decode cL_law 2110 = .ok (.aload_n 3, 1) := by decide +kernel
theorem dL_law_2111 : decode cL_law 2111 = .ok (.iconst 0, 1) := by decide +kernel
theorem dL_law_2112 : decode cL_law 2112 = .ok (.laload, 1) := by decide +kernel
theorem dL_law_2113 : decode cL_law 2113 = .ok (.iload 6, 2) := by decide +kernel
theorem dL_law_2115 : decode cL_law 2115 = .ok (.i2l, 1) := by decide +kernel
theorem dL_law_2116 : decode cL_law 2116 = .ok (.lcmp, 1) := by decide +kernel
theorem dL_law_2117 : decode cL_law 2117 = .ok (.ifCond .eq 5, 3) := by decide +kernel
theorem dL_law_2120 : decode cL_law 2120 = .ok (.iconst 0, 1) := by decide +kernel
theorem dL_law_2121 : decode cL_law 2121 = .ok (.ireturn, 1) := by decide +kernel
theorem dL_law_2122 : decode cL_law 2122 = .ok (.goto 347, 3) := by decide +kernel
theorem dL_law_2125 : decode cL_law 2125 = .ok (.aload_n 1, 1) := by decide +kernel
theorem dL_law_2126 : decode cL_law 2126 = .ok (.aload_n 0, 1) := by decide +kernel
theorem dL_law_2127 : decode cL_law 2127 = .ok (.iload 4, 2) := by decide +kernel
theorem dL_law_2129 : decode cL_law 2129 = .ok (.iconst 1, 1) := by decide +kernel
theorem dL_law_2130 : decode cL_law 2130 = .ok (.iadd, 1) := by decide +kernel
theorem dL_law_2131 : decode cL_law 2131 = .ok (.iaload, 1) := by decide +kernel
theorem dL_law_2132 : decode cL_law 2132 = .ok (.aload_n 3, 1) := by decide +kernel
theorem dL_law_2133 : decode cL_law 2133 = .ok (.invokestatic 214, 3) := by decide +kernel
theorem dL_law_2136 : decode cL_law 2136 = .ok (.istore 5, 2) := by decide +kernel
theorem dL_law_2138 : decode cL_law 2138 = .ok (.aload_n 2, 1) := by decide +kernel
theorem dL_law_2139 : decode cL_law 2139 = .ok (.aload_n 0, 1) := by decide +kernel
theorem dL_law_2140 : decode cL_law 2140 = .ok (.iload 4, 2) := by decide +kernel
theorem dL_law_2142 : decode cL_law 2142 = .ok (.iconst 1, 1) := by decide +kernel
theorem dL_law_2143 : decode cL_law 2143 = .ok (.iadd, 1) := by decide +kernel
theorem dL_law_2144 : decode cL_law 2144 = .ok (.iaload, 1) := by decide +kernel
theorem dL_law_2145 : decode cL_law 2145 = .ok (.invokevirtual 216, 3) := by decide +kernel
theorem dL_law_2148 : decode cL_law 2148 = .ok (.istore 6, 2) := by decide +kernel
theorem dL_law_2150 : decode cL_law 2150 = .ok (.aload_n 2, 1) := by decide +kernel
theorem dL_law_2151 : decode cL_law 2151 = .ok (.invokevirtual 126, 3) := by decide +kernel
theorem dL_law_2154 : decode cL_law 2154 = .ok (.iload 5, 2) := by decide +kernel
theorem dL_law_2156 : decode cL_law 2156 = .ok (.if_icmp .eq 5, 3) := by decide +kernel
theorem dL_law_2159 : decode cL_law 2159 = .ok (.iconst 0, 1) := by decide +kernel
theorem dL_law_2160 : decode cL_law 2160 = .ok (.ireturn, 1) := by decide +kernel
theorem dL_law_2161 : decode cL_law 2161 = .ok (.iload 5, 2) := by decide +kernel
theorem dL_law_2163 : decode cL_law 2163 = .ok (.ifCond .ne 15, 3) := by decide +kernel
theorem dL_law_2166 : decode cL_law 2166 = .ok (.aload_n 3, 1) := by decide +kernel
theorem dL_law_2167 : decode cL_law 2167 = .ok (.iconst 0, 1) := by decide +kernel
theorem dL_law_2168 : decode cL_law 2168 = .ok (.laload, 1) := by decide +kernel
theorem dL_law_2169 : decode cL_law 2169 = .ok (.iload 6, 2) := by decide +kernel
theorem dL_law_2171 : decode cL_law 2171 = .ok (.i2l, 1) := by decide +kernel
theorem dL_law_2172 : decode cL_law 2172 = .ok (.lcmp, 1) := by decide +kernel
theorem dL_law_2173 : decode cL_law 2173 = .ok (.ifCond .eq 5, 3) := by decide +kernel
theorem dL_law_2176 : decode cL_law 2176 = .ok (.iconst 0, 1) := by decide +kernel
theorem dL_law_2177 : decode cL_law 2177 = .ok (.ireturn, 1) := by decide +kernel
theorem dL_law_2178 : decode cL_law 2178 = .ok (.goto 291, 3) := by decide +kernel
theorem dL_law_2181 : decode cL_law 2181 = .ok (.aload_n 1, 1) := by decide +kernel
theorem dL_law_2182 : decode cL_law 2182 = .ok (.aload_n 0, 1) := by decide +kernel
theorem dL_law_2183 : decode cL_law 2183 = .ok (.iload 4, 2) := by decide +kernel
theorem dL_law_2185 : decode cL_law 2185 = .ok (.iconst 1, 1) := by decide +kernel
theorem dL_law_2186 : decode cL_law 2186 = .ok (.iadd, 1) := by decide +kernel
theorem dL_law_2187 : decode cL_law 2187 = .ok (.iaload, 1) := by decide +kernel
theorem dL_law_2188 : decode cL_law 2188 = .ok (.aload_n 0, 1) := by decide +kernel
theorem dL_law_2189 : decode cL_law 2189 = .ok (.iload 4, 2) := by decide +kernel
theorem dL_law_2191 : decode cL_law 2191 = .ok (.iconst 2, 1) := by decide +kernel
theorem dL_law_2192 : decode cL_law 2192 = .ok (.iadd, 1) := by decide +kernel
theorem dL_law_2193 : decode cL_law 2193 = .ok (.iaload, 1) := by decide +kernel
theorem dL_law_2194 : decode cL_law 2194 = .ok (.aload_n 3, 1) := by decide +kernel
theorem dL_law_2195 : decode cL_law 2195 = .ok (.invokestatic 217, 3) := by decide +kernel
theorem dL_law_2198 : decode cL_law 2198 = .ok (.istore 5, 2) := by decide +kernel
theorem dL_law_2200 : decode cL_law 2200 = .ok (.aload_n 2, 1) := by decide +kernel
theorem dL_law_2201 : decode cL_law 2201 = .ok (.aload_n 0, 1) := by decide +kernel
theorem dL_law_2202 : decode cL_law 2202 = .ok (.iload 4, 2) := by decide +kernel
theorem dL_law_2204 : decode cL_law 2204 = .ok (.iconst 1, 1) := by decide +kernel
theorem dL_law_2205 : decode cL_law 2205 = .ok (.iadd, 1) := by decide +kernel
theorem dL_law_2206 : decode cL_law 2206 = .ok (.iaload, 1) := by decide +kernel
theorem dL_law_2207 : decode cL_law 2207 = .ok (.aload_n 0, 1) := by decide +kernel
theorem dL_law_2208 : decode cL_law 2208 = .ok (.iload 4, 2) := by decide +kernel
theorem dL_law_2210 : decode cL_law 2210 = .ok (.iconst 2, 1) := by decide +kernel
theorem dL_law_2211 : decode cL_law 2211 = .ok (.iadd, 1) := by decide +kernel
theorem dL_law_2212 : decode cL_law 2212 = .ok (.iaload, 1) := by decide +kernel
theorem dL_law_2213 : decode cL_law 2213 = .ok (.invokevirtual 219, 3) := by decide +kernel
theorem dL_law_2216 : decode cL_law 2216 = .ok (.istore 6, 2) := by decide +kernel
theorem dL_law_2218 : decode cL_law 2218 = .ok (.aload_n 2, 1) := by decide +kernel
theorem dL_law_2219 : decode cL_law 2219 = .ok (.invokevirtual 126, 3) := by decide +kernel
theorem dL_law_2222 : decode cL_law 2222 = .ok (.iload 5, 2) := by decide +kernel
theorem dL_law_2224 : decode cL_law 2224 = .ok (.if_icmp .eq 5, 3) := by decide +kernel
theorem dL_law_2227 : decode cL_law 2227 = .ok (.iconst 0, 1) := by decide +kernel
theorem dL_law_2228 : decode cL_law 2228 = .ok (.ireturn, 1) := by decide +kernel
theorem dL_law_2229 : decode cL_law 2229 = .ok (.iload 5, 2) := by decide +kernel
theorem dL_law_2231 : decode cL_law 2231 = .ok (.ifCond .ne 15, 3) := by decide +kernel
theorem dL_law_2234 : decode cL_law 2234 = .ok (.aload_n 3, 1) := by decide +kernel
theorem dL_law_2235 : decode cL_law 2235 = .ok (.iconst 0, 1) := by decide +kernel
theorem dL_law_2236 : decode cL_law 2236 = .ok (.laload, 1) := by decide +kernel
theorem dL_law_2237 : decode cL_law 2237 = .ok (.iload 6, 2) := by decide +kernel
theorem dL_law_2239 : decode cL_law 2239 = .ok (.i2l, 1) := by decide +kernel
theorem dL_law_2240 : decode cL_law 2240 = .ok (.lcmp, 1) := by decide +kernel
theorem dL_law_2241 : decode cL_law 2241 = .ok (.ifCond .eq 5, 3) := by decide +kernel
theorem dL_law_2244 : decode cL_law 2244 = .ok (.iconst 0, 1) := by decide +kernel
theorem dL_law_2245 : decode cL_law 2245 = .ok (.ireturn, 1) := by decide +kernel
theorem dL_law_2246 : decode cL_law 2246 = .ok (.goto 223, 3) := by decide +kernel
theorem dL_law_2249 : decode cL_law 2249 = .ok (.aload_n 1, 1) := by decide +kernel
theorem dL_law_2250 : decode cL_law 2250 = .ok (.aload_n 0, 1) := by decide +kernel
theorem dL_law_2251 : decode cL_law 2251 = .ok (.iload 4, 2) := by decide +kernel
theorem dL_law_2253 : decode cL_law 2253 = .ok (.iconst 1, 1) := by decide +kernel
theorem dL_law_2254 : decode cL_law 2254 = .ok (.iadd, 1) := by decide +kernel
theorem dL_law_2255 : decode cL_law 2255 = .ok (.iaload, 1) := by decide +kernel
theorem dL_law_2256 : decode cL_law 2256 = .ok (.aload_n 0, 1) := by decide +kernel
theorem dL_law_2257 : decode cL_law 2257 = .ok (.iload 4, 2) := by decide +kernel
theorem dL_law_2259 : decode cL_law 2259 = .ok (.iconst 2, 1) := by decide +kernel
theorem dL_law_2260 : decode cL_law 2260 = .ok (.iadd, 1) := by decide +kernel
theorem dL_law_2261 : decode cL_law 2261 = .ok (.iaload, 1) := by decide +kernel
theorem dL_law_2262 : decode cL_law 2262 = .ok (.aload_n 0, 1) := by decide +kernel
theorem dL_law_2263 : decode cL_law 2263 = .ok (.iload 4, 2) := by decide +kernel
theorem dL_law_2265 : decode cL_law 2265 = .ok (.iconst 3, 1) := by decide +kernel
theorem dL_law_2266 : decode cL_law 2266 = .ok (.iadd, 1) := by decide +kernel
theorem dL_law_2267 : decode cL_law 2267 = .ok (.iaload, 1) := by decide +kernel
theorem dL_law_2268 : decode cL_law 2268 = .ok (.ifCond .eq 7, 3) := by decide +kernel
theorem dL_law_2271 : decode cL_law 2271 = .ok (.iconst 1, 1) := by decide +kernel
theorem dL_law_2272 : decode cL_law 2272 = .ok (.goto 4, 3) := by decide +kernel
theorem dL_law_2275 : decode cL_law 2275 = .ok (.iconst 0, 1) := by decide +kernel
theorem dL_law_2276 : decode cL_law 2276 = .ok (.aload_n 3, 1) := by decide +kernel
theorem dL_law_2277 : decode cL_law 2277 = .ok (.invokestatic 220, 3) := by decide +kernel
theorem dL_law_2280 : decode cL_law 2280 = .ok (.istore 5, 2) := by decide +kernel
theorem dL_law_2282 : decode cL_law 2282 = .ok (.aload_n 2, 1) := by decide +kernel
theorem dL_law_2283 : decode cL_law 2283 = .ok (.aload_n 0, 1) := by decide +kernel
theorem dL_law_2284 : decode cL_law 2284 = .ok (.iload 4, 2) := by decide +kernel
theorem dL_law_2286 : decode cL_law 2286 = .ok (.iconst 1, 1) := by decide +kernel
theorem dL_law_2287 : decode cL_law 2287 = .ok (.iadd, 1) := by decide +kernel
theorem dL_law_2288 : decode cL_law 2288 = .ok (.iaload, 1) := by decide +kernel
theorem dL_law_2289 : decode cL_law 2289 = .ok (.aload_n 0, 1) := by decide +kernel
theorem dL_law_2290 : decode cL_law 2290 = .ok (.iload 4, 2) := by decide +kernel
theorem dL_law_2292 : decode cL_law 2292 = .ok (.iconst 2, 1) := by decide +kernel
theorem dL_law_2293 : decode cL_law 2293 = .ok (.iadd, 1) := by decide +kernel
theorem dL_law_2294 : decode cL_law 2294 = .ok (.iaload, 1) := by decide +kernel
theorem dL_law_2295 : decode cL_law 2295 = .ok (.aload_n 0, 1) := by decide +kernel
theorem dL_law_2296 : decode cL_law 2296 = .ok (.iload 4, 2) := by decide +kernel
theorem dL_law_2298 : decode cL_law 2298 = .ok (.iconst 3, 1) := by decide +kernel
theorem dL_law_2299 : decode cL_law 2299 = .ok (.iadd, 1) := by decide +kernel
theorem dL_law_2300 : decode cL_law 2300 = .ok (.iaload, 1) := by decide +kernel
theorem dL_law_2301 : decode cL_law 2301 = .ok (.ifCond .eq 7, 3) := by decide +kernel
theorem dL_law_2304 : decode cL_law 2304 = .ok (.iconst 1, 1) := by decide +kernel
theorem dL_law_2305 : decode cL_law 2305 = .ok (.goto 4, 3) := by decide +kernel
theorem dL_law_2308 : decode cL_law 2308 = .ok (.iconst 0, 1) := by decide +kernel
theorem dL_law_2309 : decode cL_law 2309 = .ok (.invokevirtual 222, 3) := by decide +kernel
theorem dL_law_2312 : decode cL_law 2312 = .ok (.istore 6, 2) := by decide +kernel
theorem dL_law_2314 : decode cL_law 2314 = .ok (.aload_n 2, 1) := by decide +kernel
theorem dL_law_2315 : decode cL_law 2315 = .ok (.invokevirtual 126, 3) := by decide +kernel
theorem dL_law_2318 : decode cL_law 2318 = .ok (.iload 5, 2) := by decide +kernel
theorem dL_law_2320 : decode cL_law 2320 = .ok (.if_icmp .eq 5, 3) := by decide +kernel
theorem dL_law_2323 : decode cL_law 2323 = .ok (.iconst 0, 1) := by decide +kernel
theorem dL_law_2324 : decode cL_law 2324 = .ok (.ireturn, 1) := by decide +kernel
theorem dL_law_2325 : decode cL_law 2325 = .ok (.iload 5, 2) := by decide +kernel
theorem dL_law_2327 : decode cL_law 2327 = .ok (.ifCond .ne 15, 3) := by decide +kernel
theorem dL_law_2330 : decode cL_law 2330 = .ok (.aload_n 3, 1) := by decide +kernel
theorem dL_law_2331 : decode cL_law 2331 = .ok (.iconst 0, 1) := by decide +kernel
theorem dL_law_2332 : decode cL_law 2332 = .ok (.laload, 1) := by decide +kernel
theorem dL_law_2333 : decode cL_law 2333 = .ok (.iload 6, 2) := by decide +kernel
theorem dL_law_2335 : decode cL_law 2335 = .ok (.i2l, 1) := by decide +kernel
theorem dL_law_2336 : decode cL_law 2336 = .ok (.lcmp, 1) := by decide +kernel
theorem dL_law_2337 : decode cL_law 2337 = .ok (.ifCond .eq 5, 3) := by decide +kernel
theorem dL_law_2340 : decode cL_law 2340 = .ok (.iconst 0, 1) := by decide +kernel
theorem dL_law_2341 : decode cL_law 2341 = .ok (.ireturn, 1) := by decide +kernel
theorem dL_law_2342 : decode cL_law 2342 = .ok (.goto 127, 3) := by decide +kernel
theorem dL_law_2345 : decode cL_law 2345 = .ok (.aload_n 1, 1) := by decide +kernel
theorem dL_law_2346 : decode cL_law 2346 = .ok (.aload_n 0, 1) := by decide +kernel
theorem dL_law_2347 : decode cL_law 2347 = .ok (.iload 4, 2) := by decide +kernel
theorem dL_law_2349 : decode cL_law 2349 = .ok (.iconst 1, 1) := by decide +kernel
theorem dL_law_2350 : decode cL_law 2350 = .ok (.iadd, 1) := by decide +kernel
theorem dL_law_2351 : decode cL_law 2351 = .ok (.iaload, 1) := by decide +kernel
theorem dL_law_2352 : decode cL_law 2352 = .ok (.aload_n 0, 1) := by decide +kernel
theorem dL_law_2353 : decode cL_law 2353 = .ok (.iload 4, 2) := by decide +kernel
theorem dL_law_2355 : decode cL_law 2355 = .ok (.iconst 2, 1) := by decide +kernel
theorem dL_law_2356 : decode cL_law 2356 = .ok (.iadd, 1) := by decide +kernel
theorem dL_law_2357 : decode cL_law 2357 = .ok (.iaload, 1) := by decide +kernel
theorem dL_law_2358 : decode cL_law 2358 = .ok (.aload_n 3, 1) := by decide +kernel
theorem dL_law_2359 : decode cL_law 2359 = .ok (.invokestatic 223, 3) := by decide +kernel
theorem dL_law_2362 : decode cL_law 2362 = .ok (.istore 5, 2) := by decide +kernel
theorem dL_law_2364 : decode cL_law 2364 = .ok (.aload_n 2, 1) := by decide +kernel
theorem dL_law_2365 : decode cL_law 2365 = .ok (.aload_n 0, 1) := by decide +kernel
theorem dL_law_2366 : decode cL_law 2366 = .ok (.iload 4, 2) := by decide +kernel
theorem dL_law_2368 : decode cL_law 2368 = .ok (.iconst 1, 1) := by decide +kernel
theorem dL_law_2369 : decode cL_law 2369 = .ok (.iadd, 1) := by decide +kernel
theorem dL_law_2370 : decode cL_law 2370 = .ok (.iaload, 1) := by decide +kernel
theorem dL_law_2371 : decode cL_law 2371 = .ok (.aload_n 0, 1) := by decide +kernel
theorem dL_law_2372 : decode cL_law 2372 = .ok (.iload 4, 2) := by decide +kernel
theorem dL_law_2374 : decode cL_law 2374 = .ok (.iconst 2, 1) := by decide +kernel
theorem dL_law_2375 : decode cL_law 2375 = .ok (.iadd, 1) := by decide +kernel
theorem dL_law_2376 : decode cL_law 2376 = .ok (.iaload, 1) := by decide +kernel
theorem dL_law_2377 : decode cL_law 2377 = .ok (.invokevirtual 225, 3) := by decide +kernel
theorem dL_law_2380 : decode cL_law 2380 = .ok (.istore 6, 2) := by decide +kernel
theorem dL_law_2382 : decode cL_law 2382 = .ok (.aload_n 2, 1) := by decide +kernel
theorem dL_law_2383 : decode cL_law 2383 = .ok (.invokevirtual 126, 3) := by decide +kernel
theorem dL_law_2386 : decode cL_law 2386 = .ok (.iload 5, 2) := by decide +kernel
theorem dL_law_2388 : decode cL_law 2388 = .ok (.if_icmp .eq 5, 3) := by decide +kernel
theorem dL_law_2391 : decode cL_law 2391 = .ok (.iconst 0, 1) := by decide +kernel
theorem dL_law_2392 : decode cL_law 2392 = .ok (.ireturn, 1) := by decide +kernel
theorem dL_law_2393 : decode cL_law 2393 = .ok (.iload 5, 2) := by decide +kernel
theorem dL_law_2395 : decode cL_law 2395 = .ok (.ifCond .ne 15, 3) := by decide +kernel
theorem dL_law_2398 : decode cL_law 2398 = .ok (.aload_n 3, 1) := by decide +kernel
theorem dL_law_2399 : decode cL_law 2399 = .ok (.iconst 0, 1) := by decide +kernel
theorem dL_law_2400 : decode cL_law 2400 = .ok (.laload, 1) := by decide +kernel
theorem dL_law_2401 : decode cL_law 2401 = .ok (.iload 6, 2) := by decide +kernel
theorem dL_law_2403 : decode cL_law 2403 = .ok (.i2l, 1) := by decide +kernel
theorem dL_law_2404 : decode cL_law 2404 = .ok (.lcmp, 1) := by decide +kernel
theorem dL_law_2405 : decode cL_law 2405 = .ok (.ifCond .eq 5, 3) := by decide +kernel
theorem dL_law_2408 : decode cL_law 2408 = .ok (.iconst 0, 1) := by decide +kernel
theorem dL_law_2409 : decode cL_law 2409 = .ok (.ireturn, 1) := by decide +kernel
theorem dL_law_2410 : decode cL_law 2410 = .ok (.goto 59, 3) := by decide +kernel
theorem dL_law_2413 : decode cL_law 2413 = .ok (.aload_n 1, 1) := by decide +kernel
theorem dL_law_2414 : decode cL_law 2414 = .ok (.aload_n 0, 1) := by decide +kernel
theorem dL_law_2415 : decode cL_law 2415 = .ok (.iload 4, 2) := by decide +kernel
theorem dL_law_2417 : decode cL_law 2417 = .ok (.iconst 1, 1) := by decide +kernel
theorem dL_law_2418 : decode cL_law 2418 = .ok (.iadd, 1) := by decide +kernel
theorem dL_law_2419 : decode cL_law 2419 = .ok (.iaload, 1) := by decide +kernel
theorem dL_law_2420 : decode cL_law 2420 = .ok (.aload_n 3, 1) := by decide +kernel
theorem dL_law_2421 : decode cL_law 2421 = .ok (.invokestatic 226, 3) := by decide +kernel
theorem dL_law_2424 : decode cL_law 2424 = .ok (.istore 5, 2) := by decide +kernel
theorem dL_law_2426 : decode cL_law 2426 = .ok (.aload_n 2, 1) := by decide +kernel
theorem dL_law_2427 : decode cL_law 2427 = .ok (.aload_n 0, 1) := by decide +kernel
theorem dL_law_2428 : decode cL_law 2428 = .ok (.iload 4, 2) := by decide +kernel
theorem dL_law_2430 : decode cL_law 2430 = .ok (.iconst 1, 1) := by decide +kernel
theorem dL_law_2431 : decode cL_law 2431 = .ok (.iadd, 1) := by decide +kernel
theorem dL_law_2432 : decode cL_law 2432 = .ok (.iaload, 1) := by decide +kernel
theorem dL_law_2433 : decode cL_law 2433 = .ok (.invokevirtual 228, 3) := by decide +kernel
theorem dL_law_2436 : decode cL_law 2436 = .ok (.istore 6, 2) := by decide +kernel
theorem dL_law_2438 : decode cL_law 2438 = .ok (.aload_n 2, 1) := by decide +kernel
theorem dL_law_2439 : decode cL_law 2439 = .ok (.invokevirtual 126, 3) := by decide +kernel
theorem dL_law_2442 : decode cL_law 2442 = .ok (.iload 5, 2) := by decide +kernel
theorem dL_law_2444 : decode cL_law 2444 = .ok (.if_icmp .eq 5, 3) := by decide +kernel
theorem dL_law_2447 : decode cL_law 2447 = .ok (.iconst 0, 1) := by decide +kernel
theorem dL_law_2448 : decode cL_law 2448 = .ok (.ireturn, 1) := by decide +kernel
theorem dL_law_2449 : decode cL_law 2449 = .ok (.iload 5, 2) := by decide +kernel
theorem dL_law_2451 : decode cL_law 2451 = .ok (.ifCond .ne 15, 3) := by decide +kernel
theorem dL_law_2454 : decode cL_law 2454 = .ok (.aload_n 3, 1) := by decide +kernel
theorem dL_law_2455 : decode cL_law 2455 = .ok (.iconst 0, 1) := by decide +kernel
theorem dL_law_2456 : decode cL_law 2456 = .ok (.laload, 1) := by decide +kernel
theorem dL_law_2457 : decode cL_law 2457 = .ok (.iload 6, 2) := by decide +kernel
theorem dL_law_2459 : decode cL_law 2459 = .ok (.i2l, 1) := by decide +kernel
theorem dL_law_2460 : decode cL_law 2460 = .ok (.lcmp, 1) := by decide +kernel
theorem dL_law_2461 : decode cL_law 2461 = .ok (.ifCond .eq 5, 3) := by decide +kernel
theorem dL_law_2464 : decode cL_law 2464 = .ok (.iconst 0, 1) := by decide +kernel
theorem dL_law_2465 : decode cL_law 2465 = .ok (.ireturn, 1) := by decide +kernel
theorem dL_law_2466 : decode cL_law 2466 = .ok (.goto 3, 3) := by decide +kernel
theorem dL_law_2469 : decode cL_law 2469 = .ok (.iinc 4 5, 3) := by decide +kernel
theorem dL_law_2472 : decode cL_law 2472 = .ok (.goto (-2449), 3) := by decide +kernel
theorem dL_law_2475 : decode cL_law 2475 = .ok (.iconst 1, 1) := by decide +kernel
theorem dL_law_2476 : decode cL_law 2476 = .ok (.ireturn, 1) := by decide +kernel
end
section
section VXIA
variable {p : Program} {l : Launch} {e : Env} {R : Room} {s : State} {m : MethodId} {args : Array Value} {below : List Frame} {meth : Method} {c : Code} {T : State} {locs : List Loc} {cells slots : Nat}
theorem vx_callI (X : Stand p l e R s m args below meth c T locs cells slots) (hexec : p.tables.exec = Jvm.exec) {own : String} {index : Nat} {y : MethodName} {bytes : ByteArray} {maxL : Nat}
    (hown : s.vm.findClass own = some m.cls) (hy1 : y.name = "<init>") (hlink : (Cond.methodLink own index y).before args s = true) (hinst : (Cond.instanceMethod y).before args s = true)
    (hcode : (Cond.code y bytes maxL none).before args s = true) (hy : y.cls ≠ "java/lang/invoke/MethodHandle" ∧ y.cls ≠ "java/lang/invoke/VarHandle")
    {W9 : Nat} {Pre : Pt → Array Value → Prop} {Post : Pt → Array Value → Option Value → Pt → Prop} {PostX : Pt → Array Value → Addr → Pt → Prop} (hK : vx_Back l R p e below s args y 3 W9 Pre Post PostX)
    {g : JFrame} (hg : g.method = m) (hsize : g.locals.size = c.maxLocals) {a : Addr} {argsL rest : List Value} (hlen : ∀ sig, parseMethodDescriptor y.desc = some sig → argsL.length = sig.parameters.length)
    (hstack : g.stack = argsL.reverse ++ .ref a :: rest) (hW : 2 * g.monitorRoom + (rest.map fun v => v.category).sum ≤ W9) (hdg : decode c.code g.pc = .ok (.invokespecial index, 3))
    (hpre : ∀ vm₁, s.WarmedH vm₁ → Pre ⟨T.setVm vm₁, locs, cells, slots⟩ (Value.ref a :: argsL).toArray) :
    (∃ (v : Option Value) (vm₁ : Vm) (B : Pt), s.WarmedH vm₁ ∧ Stand p l e R s m args below meth c B.U B.locs B.cells B.slots ∧ Post ⟨T.setVm vm₁, locs, cells, slots⟩ (Value.ref a :: argsL).toArray v B ∧
      ∀ target, Steps p.tables e below (B.U.setTop { g with pc := g.pc + 3, stack := v.toList ++ rest }) target → Steps p.tables e below (T.setTop g) target) ∨
    (∃ (q : Addr) (vm₁ : Vm) (B : Pt), s.WarmedH vm₁ ∧ Stand p l e R s m args below meth c B.U B.locs B.cells B.slots ∧ PostX ⟨T.setVm vm₁, locs, cells, slots⟩ (Value.ref a :: argsL).toArray q B ∧
      Steps p.tables e below (T.setTop g) ((B.U.setTop { g with stack := rest }).pushFrame (.throwing q))) := by
  subst hg
  have hpl : e.platform.magicAccessors = ({} : Platform).magicAccessors := by rw [X.admits.platform]
  obtain ⟨mk, methM, cM, kP, vm₁, hnamed, hmethM, hcodeM, -, hlocalsM, -, hkP, -, hW₁, hstep₁⟩ := Steps.initColdArgs (e := e) X.here hexec X.warmed hpl hown hy1 hy hlink hinst hcode (f := g) rfl hlen hstack hdg
  have X₁ := X.noted hW₁
  rcases hK g.method meth c ⟨T.setVm vm₁, locs, cells, slots⟩ { g with stack := rest } (.invokespecial index) mk (Value.ref a :: argsL).toArray X₁ rfl hsize hdg hW (X₁.named hnamed) (hpre vm₁ X₁.warmed) with ⟨v, B, X', hpost, hsteps⟩ | ⟨q, B, X', hpost, hsteps⟩
  · exact Or.inl ⟨v, vm₁, B, X₁.warmed, X', hpost, fun target h => hstep₁ _ fun acts => by rw [doInvoke_state]; exact hsteps.trans h⟩
  · exact Or.inr ⟨q, vm₁, B, X₁.warmed, X', hpost, hstep₁ _ fun acts => by rw [doInvoke_state]; exact hsteps⟩
end VXIA
section VXIB
variable {p : Program} {l : Launch} {e : Env} {R : Room} {s : State} {m : MethodId} {args : Array Value} {below : List Frame} {meth : Method} {c : Code} {H : Heap} {locs : List Loc} {cells slots : Nat}
variable {y : MethodName} {bytes cc : ByteArray} {maxL nL mc ms n index : Nat} {ret : Option FieldType} {ws : List Cond} {rm : Room} {Pc : Array Value → State → Prop} {Qc : Array Value → State → Outcome → State → Prop} {XC : String → State → State → Prop} {free : Addr → Prop} {Ts : List Cond} {own C : String} {b : Addr} {As rest : List Value} {g : JFrame}
theorem vx_runI (S : CallFix p m c cc nL s args Ts own) (hM : vx_Met l y ws rm Pc Qc XC mc ms free) (cw : CallB R s args own index y bytes maxL none ws rm mc ms n ∧ y.name = "<init>" ∧ (Cond.instanceMethod y).before args s = true) (hp : PreS s H Pc (.ref b :: As))
    (hg : g.method = m) (hn : As.length = n) (hsize : g.locals.size = nL) (hstack : g.stack = As.reverse ++ .ref b :: rest) (hW : 2 * g.monitorRoom + (rest.map fun v => v.category).sum ≤ 8) (hdg : decode cc g.pc = .ok (.invokespecial index, 3)) (hf : cells + mc ≤ R.cells ∧ slots + ms ≤ R.slots) :
    vx_Run p l e R s m args below meth c H locs cells slots mc ms g rest (Qc (Value.ref b :: As).toArray) XC free := by
  have hK : vx_Back l R p e below s args y 3 8 (PreOf R mc ms Pc) (PostOf Qc mc ms free) (vx_Post XC mc ms free) := vx_callBack cw.1 hM hp.1
  obtain ⟨⟨-, -, -, -, -, -, hcode, -, hy, hlen, hl⟩, hy1, hin⟩ := cw
  obtain ⟨hx, hb, hml, ho, -⟩ := S
  have hPc := hp.2
  intro T hT X
  rcases vx_callI X hx (bytes := bytes) (maxL := maxL) ho hy1 hl hin hcode hy hK hg (hsize.trans hml.symm) (a := b) (argsL := As) (rest := rest) (fun sig h => hn.trans (hlen sig h)) hstack hW (by rw [hb]; exact hdg)
    (fun vm₁ hW₁ => ⟨hf.1, hf.2, hPc (T.setVm vm₁) hT hW₁⟩) with ⟨v, vm₁, ⟨U', l2, c2, s2⟩, hW₁, X', ⟨g', mk, t, L, e1, e2, hq, h1, hL, h2, h3⟩, st⟩ | ⟨q, vm₁, ⟨U', l2, c2, s2⟩, hW₁, X', ⟨g', mk, t, L, E, ce, e1, e2, hq, hce, hcv, hcl, h1, hL, h2, h3⟩, st⟩
  · dsimp only [Pt.U, Pt.locs, Pt.cells, Pt.slots] at X' e1 e2 h1 h2 h3 st
    subst h1; subst h2; subst h3
    exact Or.inl ⟨v, (T.setVm vm₁).calling g' mk (Value.ref b :: As).toArray, t, U', L, hT, X', hL, e1, e2, hq, st⟩
  · dsimp only [Pt.U, Pt.locs, Pt.cells, Pt.slots] at X' e1 e2 h1 h2 h3 st hcl
    subst h1; subst h2; subst h3
    exact Or.inr ⟨q, (T.setVm vm₁).calling g' mk (Value.ref b :: As).toArray, t, U', L, E, ce, hT, X', hL, e1, e2, hq, hce, hcv, vx_cls hW₁ hcl, st⟩
end VXIB
end
section
/-! the abstract heap: names (numbers) for the law's own cells; ad says at which address a name lies -/
abbrev Hp : Type := Nat → Option va_E
def cV (ad : Nat → Nat) : Value → Value
  | .ref n => .ref (ad n)
  | v => v
def cL (ad : Nat → Nat) (q : Nat × Value) : Nat × Value := (q.1, cV ad q.2)
def cA (ad : Nat → Nat) (a : vp_A) : vp_A := (a.1, match a.2 with
  | .inl f => .inl f
  | .inr (.inl f) => .inr (.inl f)
  | .inr (.inr (.inl f)) => .inr (.inr (.inl f))
  | .inr (.inr (.inr (.inl f))) => .inr (.inr (.inr (.inl f)))
  | .inr (.inr (.inr (.inr f))) => .inr (.inr (.inr (.inr (fun j => (f j).map ad)))))
def cE (ad : Nat → Nat) : va_E → va_E
  | .inl x => .inl (x.1, cA ad x.2)
  | .inr x => .inr (x.1, x.2.map (cV ad))
theorem cat_cV (ad : Nat → Nat) (v : Value) : (cV ad v).category = v.category := by cases v <;> rfl
theorem wa_at {ad : Nat → Nat} {lv : List (Nat × Value)} {j : Nat} {q : Nat × Value} (h : lv[j]? = some q) : (lv.map (cL ad))[j]? = some (cL ad q) := by
  rw [List.getElem?_map, h]; rfl
def lvP (i : Nat) (q : Nat × Value) : Bool := !(q.1 == i) && !(q.1 + 1 == i && q.2.category == 2)
def lvP2 (i : Nat) (q : Nat × Value) : Bool := !(q.1 == i) && (!(q.1 == i + 1) && !(q.1 + 1 == i && q.2.category == 2))
theorem filt_map (ad : Nat → Nat) (P : Nat × Value → Bool) (hP : ∀ q, P (cL ad q) = P q) (lv : List (Nat × Value)) : (lv.map (cL ad)).filter P = (lv.filter P).map (cL ad) := by
  induction lv with
  | nil => rfl
  | cons q t ih =>
    rw [List.map_cons, List.filter_cons, List.filter_cons, hP, ih]
    split <;> rfl
theorem st_lv {ad : Nat → Nat} {lv lv' : List (Nat × Value)} {i : Nat} {v : Value} (h : (i, v) :: lv.filter (lvP i) = lv') :
    (i, cV ad v) :: (lv.map (cL ad)).filter (fun q => !(q.1 == i) && !(q.1 + 1 == i && q.2.category == 2)) = lv'.map (cL ad) := by
  subst h
  rw [List.map_cons]
  congr 1
  exact filt_map ad (lvP i) (fun q => by unfold lvP cL; rw [cat_cV]) lv
theorem st_lv2 {ad : Nat → Nat} {lv lv' : List (Nat × Value)} {i : Nat} {v : Value} (h : (i, v) :: lv.filter (lvP2 i) = lv') :
    (i, cV ad v) :: (lv.map (cL ad)).filter (fun q => !(q.1 == i) && (!(q.1 == i + 1) && !(q.1 + 1 == i && q.2.category == 2))) = lv'.map (cL ad) := by
  subst h
  rw [List.map_cons]
  congr 1
  exact filt_map ad (lvP2 i) (fun q => by unfold lvP2 cL; rw [cat_cV]) lv
def hA0 (H0 : Heap) : Nat → Prop := fun q => H0.size ≤ q
/-- the heap holds the abstract one; what was there at the law's start is as it was -/
def HP (D : va_G) (H0 : Heap) (ad : Nat → Nat) (h : Hp) (H : Heap) : Prop :=
  H0.size ≤ H.size ∧ (∀ q : Nat, q < H0.size → H[q]? = H0[q]?) ∧ (∀ n e, h n = some e → H0.size ≤ ad n ∧ va_at D vwCl (ad n, cE ad e) H) ∧ ∀ n n' e e', h n = some e → h n' = some e' → ad n = ad n' → n = n'
def dcW : Cond → Bool
  | .declares _ => true
  | .castable _ _ => true
  | _ => false
def xcs : List String := ["java/lang/IllegalArgumentException", "java/lang/IllegalStateException", "java/lang/IndexOutOfBoundsException"]
/-- what the tables say, and the few words that speak of the heap at the law's start -/
def ST (D : va_G) (tys : List (ClassId × FieldType)) (H0 : Heap) (U : State) : Prop :=
  va_K D vwCl tys U ∧ (∀ a i b n d host, Cond.fieldLinkNest a i b n d host ∈ lw_tbl → va_Nw (.fieldLinkNest a i b n d host) U) ∧
  (∀ own k tx, Cond.stringRef own k tx ∈ lw_tbl → ∃ a, vk_R own k tx a U) ∧ (∀ C, Cond.arrayOver (.object C) ∈ lw_tbl → va_AO C U) ∧
  vx_Zq Bundle.tN "UNASSIGNED_STACK" Bundle.steD (hA0 H0) U H0 ∧ vx_Zq Bundle.tN "SUPPRESSED_SENTINEL" Bundle.listD (hA0 H0) U H0 ∧
  (∀ w ∈ lw_tbl, dcW w = true → va_Nw w U) ∧ ∀ a ∈ xcs, ∀ b ∈ xcs, a ≠ b → va_Nc a b U
theorem dcW_on {w : Cond} (h : dcW w = true) : w.onTables = true := by
  cases w <;> first | rfl | cases h
theorem dcW_warm {w : Cond} (hd : dcW w = true) {s U : State} (hW : s.WarmedH U.vm) (h : va_Nw w s) : va_Nw w U := by
  cases w with
  | declares x => exact va_Nw.warmD hW h
  | castable a b => exact va_tabs rfl (rfl : (s.setVm U.vm).vm = U.vm) (by rw [Cond.castable_setVm hW.alike]; exact h)
  | _ => cases hd
theorem ST.warm {D : va_G} {tys : List (ClassId × FieldType)} {H0 : Heap} {s U : State} (hW : s.WarmedH U.vm) (h : ST D tys H0 s) : ST D tys H0 U := by
  obtain ⟨h1, h2, h3, h4, h5, h6, h7, h8⟩ := h
  exact ⟨va_K.moved hW.alike h1, fun a i b n d host q => va_Nw.warmF hW (h2 a i b n d host q), fun own k tx q => by
    obtain ⟨a, ha⟩ := h3 own k tx q
    exact ⟨a, vk_R.warm hW ha⟩, fun C q => va_AO.moved hW.alike (h4 C q), vx_Zq.moved hW.alike h5, vx_Zq.moved hW.alike h6, fun w hw hd => dcW_warm hd hW (h7 w hw hd), fun a ha b hb q => va_Nc.moved hW.alike (h8 a ha b hb q)⟩
theorem ST.calling {D : va_G} {tys : List (ClassId × FieldType)} {H0 : Heap} {U : State} {g : JFrame} {mk : MethodId} {a : Array Value} (h : ST D tys H0 U) : ST D tys H0 (U.calling g mk a) := by
  obtain ⟨h1, h2, h3, h4, h5, h6, h7, h8⟩ := h
  exact ⟨va_K.moved (Vm.Alike.refl U.vm) h1, fun a i b n d host q => va_Nw.same rfl (u := U) rfl (h2 a i b n d host q), fun own k tx q => by
    obtain ⟨a, ha⟩ := h3 own k tx q
    exact ⟨a, vk_R.same (u := U) rfl ha⟩, fun C q => va_AO.moved (Vm.Alike.refl U.vm) (h4 C q), vx_Zq.moved (Vm.Alike.refl U.vm) h5, vx_Zq.moved (Vm.Alike.refl U.vm) h6, fun w hw hd => va_Nw.same (dcW_on hd) (u := U) rfl (h7 w hw hd), fun a ha b hb q => va_Nc.moved (Vm.Alike.refl U.vm) (h8 a ha b hb q)⟩
section HPS
variable {D : va_G} {H0 : Heap} {ad : Nat → Nat} {h : Hp} {H H1 : Heap}
theorem HP.get (hp : HP D H0 ad h H) {n : Nat} {e : va_E} (he : h n = some e) : va_P D vwCl [(ad n, cE ad e)] H := by
  intro k q hk
  have hz : k < 1 := (List.getElem?_eq_some_iff.mp hk).1
  rw [show k = 0 by omega] at hk
  cases hk
  exact (hp.2.2.1 n e he).2
theorem HP.lt (hp : HP D H0 ad h H) {n : Nat} {e : va_E} (he : h n = some e) : ad n < H.size := (hp.2.2.1 n e he).2.lt
theorem HP.grow (hp : HP D H0 ad h H) (hz : H.size ≤ H1.size) (hq : ∀ q : Nat, q < H.size → H1[q]? = H[q]?) : HP D H0 ad h H1 := by
  obtain ⟨h1, h2, h3, h4⟩ := hp
  exact ⟨Nat.le_trans h1 hz, fun q hl => (hq q (Nat.lt_of_lt_of_le hl h1)).trans (h2 q hl), fun n e he => ⟨(h3 n e he).1, (h3 n e he).2.kept (hq _ (h3 n e he).2.lt)⟩, h4⟩
theorem HP.put (hp : HP D H0 ad h H) {n : Nat} {e0 e : va_E} (he : h n = some e0) (hz : H1.size = H.size) (hq : ∀ q : Nat, q ≠ ad n → H1[q]? = H[q]?) (ha : va_at D vwCl (ad n, cE ad e) H1) : HP D H0 ad (va_up h n (some e)) H1 := by
  obtain ⟨h1, h2, h3, h4⟩ := hp
  have hn := (h3 n e0 he).1
  have key : ∀ m e', va_up h n (some e) m = some e' → ∃ e'', h m = some e'' := by
    intro m e' hm
    unfold va_up at hm
    by_cases hmn : m = n
    · rw [hmn]; exact ⟨e0, he⟩
    · rw [if_neg hmn] at hm; exact ⟨e', hm⟩
  refine ⟨by rw [hz]; exact h1, fun q hl => (hq q (by omega)).trans (h2 q hl), fun m e' hm => ?_, fun a b ea eb hea heb hab => ?_⟩
  · unfold va_up at hm
    by_cases hmn : m = n
    · rw [if_pos hmn] at hm
      cases hm
      rw [hmn]
      exact ⟨hn, ha⟩
    · rw [if_neg hmn] at hm
      refine ⟨(h3 m e' hm).1, (h3 m e' hm).2.kept (hq _ (fun z => hmn (h4 m n e' e0 hm he z)))⟩
  · obtain ⟨x, hx⟩ := key a ea hea
    obtain ⟨y, hy⟩ := key b eb heb
    exact h4 a b x y hx hy hab
/-- the name n stands in no cell -/
def noRef (h : Hp) (n : Nat) : Prop := ∀ m e, h m = some e → ∀ (ad : Nat → Nat) (q : Nat), cE (va_up ad n q) e = cE ad e
theorem HP.new (hp : HP D H0 ad h H) {n : Nat} {e : va_E} (hn : h n = none) (hr : noRef h n) (hz : H1.size = H.size + 1) (hq : ∀ q : Nat, q < H.size → H1[q]? = H[q]?)
    (ha : va_at D vwCl (H.size, cE (va_up ad n H.size) e) H1) : HP D H0 (va_up ad n H.size) (va_up h n (some e)) H1 := by
  obtain ⟨h1, h2, h3, h4⟩ := hp
  have key : ∀ m e', va_up h n (some e) m = some e' → (m = n ∧ e' = e) ∨ (m ≠ n ∧ h m = some e') := by
    intro m e' hm
    unfold va_up at hm
    by_cases hmn : m = n
    · rw [if_pos hmn] at hm; cases hm; exact Or.inl ⟨hmn, rfl⟩
    · rw [if_neg hmn] at hm; exact Or.inr ⟨hmn, hm⟩
  have up1 : va_up ad n H.size n = H.size := if_pos rfl
  have up2 : ∀ m, m ≠ n → va_up ad n H.size m = ad m := fun m hm => if_neg hm
  refine ⟨by omega, fun q hl => (hq q (by omega)).trans (h2 q hl), fun m e' hm => ?_, fun a b ea eb hea heb hab => ?_⟩
  · rcases key m e' hm with ⟨rfl, rfl⟩ | ⟨hmn, hm⟩
    · rw [up1]; exact ⟨h1, ha⟩
    · rw [up2 m hmn, hr m e' hm]
      exact ⟨(h3 m e' hm).1, (h3 m e' hm).2.kept (hq _ (h3 m e' hm).2.lt)⟩
  · rcases key a ea hea with ⟨ra, rfl⟩ | ⟨hna, ha'⟩ <;> rcases key b eb heb with ⟨rb, rfl⟩ | ⟨hnb, hb'⟩
    · rw [ra, rb]
    · rw [ra, up1, up2 b hnb] at hab
      have := (h3 b eb hb').2.lt
      simp only at this
      omega
    · rw [rb, up1, up2 a hna] at hab
      have := (h3 a ea ha').2.lt
      simp only at this
      omega
    · rw [up2 a hna, up2 b hnb] at hab
      exact h4 a b ea eb ha' hb' hab
end HPS
/-- a class by its place: name, fields, count, types; its words are in the tables -/
def LY (ci : Nat) (C : String) (T : u_T) (N : Nat) (ty : Nat → FieldType) : Prop :=
  vwCl[ci]? = some (C, T, N) ∧ (∀ w ∈ u_ws C T N, w ∈ lw_tbl ∧ goodWord w = true) ∧ (∀ k, k < N → parseFieldDescriptor (T k).2.2.1 = some (ty k)) ∧ (∀ a, a < N → ∀ b, b < N → a ≠ b → (T a).2.1 ≠ (T b).2.1) ∧ ∀ k, k < N → (T k).1 = C
def RM (k mc ms : Nat) : Room := { frames := k, cells := mc, slots := ms, locals := 28 * k + 60 }
/-- all that stays the same in one body -/
def FX (D : va_G) (tys : List (ClassId × FieldType)) (H0 : Heap) (p : Program) (l : Launch) (s : State) (m : MethodId) (args : Array Value) (meth : Method) (c : Code) (own : String) (cc : ByteArray) (nL : Nat) (ret : Option FieldType) (nm : String) (tb : List ExceptionTableEntry) : Prop :=
  p.tables.exec = Jvm.exec ∧ c.code = cc ∧ c.maxLocals = nL ∧ s.vm.findClass own = some m.cls ∧ (∀ w ∈ lw_tbl, goodWord w = true → w.before args s = true) ∧ ST D tys H0 s ∧ meth.locks = false ∧ meth.sig.returnType = ret ∧ l.stackTraces = false ∧ meth.name = nm ∧ c.exceptionTable.toList = tb ∧ H0.size ≤ s.heap.size ∧ ∀ q : Nat, q < H0.size → s.heap[q]? = H0[q]?
/-- the machine stands at pc with these locals and this stack, over an abstract heap, and comes to Q -/
def WA (D : va_G) (H0 : Heap) (p : Program) (l : Launch) (e : Env) (R : Room) (s : State) (m : MethodId) (args : Array Value) (below : List Frame) (meth : Method) (c : Code) (nL : Nat) (Q : State → Prop) (ad : Nat → Nat) (h : Hp) (cells slots pc : Nat) (lv : List (Nat × Value)) (st : List Value) : Prop :=
  ∀ (H : Heap) (locs : List Loc) (ls : Array Slot), HP D H0 ad h H → va_S (hA0 H0) s.heap H locs → lv_has ls nL (lv.map (cL ad)) → W p l e R s m args below meth c H locs cells slots Q (F0 m pc ls (st.map (cV ad)))
/-- an object of class E is thrown at pc -/
def WX (D : va_G) (H0 : Heap) (p : Program) (l : Launch) (e : Env) (R : Room) (s : State) (m : MethodId) (args : Array Value) (below : List Frame) (meth : Method) (c : Code) (nL : Nat) (Q : State → Prop) (ad : Nat → Nat) (h : Hp) (cells slots pc : Nat) (lv : List (Nat × Value)) (E : String) : Prop :=
  ∀ (H : Heap) (locs : List Loc) (ls : Array Slot) (rest : List Value) (q : Addr) (ce : Cell), HP D H0 ad h H → va_S (hA0 H0) s.heap H locs → lv_has ls nL (lv.map (cL ad)) → H[q]? = some ce → ce.vm = .none → s.vm.findClass E = some ce.cls → vx_W p l e R s m args below meth c H locs cells slots Q (F0 m pc ls rest) q
end
section
section RULES
variable {D : va_G} {tys : List (ClassId × FieldType)} {H0 : Heap} {p : Program} {l : Launch} {e : Env} {R : Room} {s : State} {m : MethodId} {args : Array Value} {below : List Frame} {meth : Method} {c : Code} {own : String} {cc : ByteArray} {nL : Nat} {ret : Option FieldType} {nm : String} {tb : List ExceptionTableEntry} {Q : State → Prop} {ad : Nat → Nat} {h : Hp} {cells slots pc : Nat} {lv lv' : List (Nat × Value)} {st : List Value}
theorem wa_iconst (F : FX D tys H0 p l s m args meth c own cc nL ret nm tb) {n : Int} {v : Int32} (d : decode cc pc = .ok (.iconst n, 1)) (hv : Int32.ofInt n = v)
    (K : WA D H0 p l e R s m args below meth c nL Q ad h cells slots (pc + 1) lv (.int v :: st)) : WA D H0 p l e R s m args below meth c nL Q ad h cells slots pc lv st := fun H locs ls hH hS hl => lv_iconst F.1 F.2.1 d hv (K H locs ls hH hS hl)
theorem wa_bipush (F : FX D tys H0 p l s m args meth c own cc nL ret nm tb) {n : Int} {v : Int32} (d : decode cc pc = .ok (.bipush n, 2)) (hv : (Int8.ofInt n).toInt32 = v)
    (K : WA D H0 p l e R s m args below meth c nL Q ad h cells slots (pc + 2) lv (.int v :: st)) : WA D H0 p l e R s m args below meth c nL Q ad h cells slots pc lv st := fun H locs ls hH hS hl => lv_bipush F.1 F.2.1 d hv (K H locs ls hH hS hl)
theorem wa_sipush (F : FX D tys H0 p l s m args meth c own cc nL ret nm tb) {n : Int} {v : Int32} (d : decode cc pc = .ok (.sipush n, 3)) (hv : (Int16.ofInt n).toInt32 = v)
    (K : WA D H0 p l e R s m args below meth c nL Q ad h cells slots (pc + 3) lv (.int v :: st)) : WA D H0 p l e R s m args below meth c nL Q ad h cells slots pc lv st := fun H locs ls hH hS hl => lv_sipush F.1 F.2.1 d hv (K H locs ls hH hS hl)
theorem wa_lconst (F : FX D tys H0 p l s m args meth c own cc nL ret nm tb) {n : Fin 2} {v : Int64} (d : decode cc pc = .ok (.lconst n, 1)) (hv : Int64.ofNat (n : Nat) = v)
    (K : WA D H0 p l e R s m args below meth c nL Q ad h cells slots (pc + 1) lv (.long v :: st)) : WA D H0 p l e R s m args below meth c nL Q ad h cells slots pc lv st := fun H locs ls hH hS hl => lv_lconst F.1 F.2.1 d hv (K H locs ls hH hS hl)
theorem wa_ldc (F : FX D tys H0 p l s m args meth c own cc nL ret nm tb) {index : Nat} {v : Int32} (w : Cond.constant own index v ∈ lw_tbl) (d : decode cc pc = .ok (.ldc index, 2))
    (K : WA D H0 p l e R s m args below meth c nL Q ad h cells slots (pc + 2) lv (.int v :: st)) : WA D H0 p l e R s m args below meth c nL Q ad h cells slots pc lv st := fun H locs ls hH hS hl => lv_ldc F.1 F.2.1 F.2.2.2.1 (F.2.2.2.2.1 _ w rfl) d (K H locs ls hH hS hl)
theorem wa_ldcw (F : FX D tys H0 p l s m args meth c own cc nL ret nm tb) {index : Nat} {v : Int32} (w : Cond.constant own index v ∈ lw_tbl) (d : decode cc pc = .ok (.ldc_w index, 3))
    (K : WA D H0 p l e R s m args below meth c nL Q ad h cells slots (pc + 3) lv (.int v :: st)) : WA D H0 p l e R s m args below meth c nL Q ad h cells slots pc lv st := fun H locs ls hH hS hl => lv_ldcw F.1 F.2.1 F.2.2.2.1 (F.2.2.2.2.1 _ w rfl) d (K H locs ls hH hS hl)
theorem wa_ldc2 (F : FX D tys H0 p l s m args meth c own cc nL ret nm tb) {index : Nat} {v : Int64} (w : Cond.constantLong own index v ∈ lw_tbl) (d : decode cc pc = .ok (.ldc2_w index, 3))
    (K : WA D H0 p l e R s m args below meth c nL Q ad h cells slots (pc + 3) lv (.long v :: st)) : WA D H0 p l e R s m args below meth c nL Q ad h cells slots pc lv st := fun H locs ls hH hS hl => lv_ldc2 F.1 F.2.1 F.2.2.2.1 (F.2.2.2.2.1 _ w rfl) d (K H locs ls hH hS hl)
theorem wa_null (F : FX D tys H0 p l s m args meth c own cc nL ret nm tb) (d : decode cc pc = .ok (.aconst_null, 1))
    (K : WA D H0 p l e R s m args below meth c nL Q ad h cells slots (pc + 1) lv (.null :: st)) : WA D H0 p l e R s m args below meth c nL Q ad h cells slots pc lv st := fun H locs ls hH hS hl => lv_null F.1 F.2.1 d (K H locs ls hH hS hl)
theorem wa_iload_n (F : FX D tys H0 p l s m args meth c own cc nL ret nm tb) {k : Fin 4} {i : Nat} {x : Int32} (d : decode cc pc = .ok (.iload_n k, 1)) (hi : (k : Nat) = i) (j : Nat) (hj : lv[j]? = some (i, .int x))
    (K : WA D H0 p l e R s m args below meth c nL Q ad h cells slots (pc + 1) lv (.int x :: st)) : WA D H0 p l e R s m args below meth c nL Q ad h cells slots pc lv st := fun H locs ls hH hS hl => lv_iload_n F.1 F.2.1 d hi (lv_at hl j (wa_at hj)) (K H locs ls hH hS hl)
theorem wa_iload (F : FX D tys H0 p l s m args meth c own cc nL ret nm tb) {i : Nat} {x : Int32} (d : decode cc pc = .ok (.iload i, 2)) (j : Nat) (hj : lv[j]? = some (i, .int x))
    (K : WA D H0 p l e R s m args below meth c nL Q ad h cells slots (pc + 2) lv (.int x :: st)) : WA D H0 p l e R s m args below meth c nL Q ad h cells slots pc lv st := fun H locs ls hH hS hl => lv_iload F.1 F.2.1 d (lv_at hl j (wa_at hj)) (K H locs ls hH hS hl)
theorem wa_aload_n (F : FX D tys H0 p l s m args meth c own cc nL ret nm tb) {k : Fin 4} {i : Nat} {x : Nat} (d : decode cc pc = .ok (.aload_n k, 1)) (hi : (k : Nat) = i) (j : Nat) (hj : lv[j]? = some (i, .ref x))
    (K : WA D H0 p l e R s m args below meth c nL Q ad h cells slots (pc + 1) lv (.ref x :: st)) : WA D H0 p l e R s m args below meth c nL Q ad h cells slots pc lv st := fun H locs ls hH hS hl => lv_aload_n F.1 F.2.1 d hi (lv_at hl j (wa_at hj)) (K H locs ls hH hS hl)
theorem wa_aload (F : FX D tys H0 p l s m args meth c own cc nL ret nm tb) {i : Nat} {x : Nat} (d : decode cc pc = .ok (.aload i, 2)) (j : Nat) (hj : lv[j]? = some (i, .ref x))
    (K : WA D H0 p l e R s m args below meth c nL Q ad h cells slots (pc + 2) lv (.ref x :: st)) : WA D H0 p l e R s m args below meth c nL Q ad h cells slots pc lv st := fun H locs ls hH hS hl => lv_aload F.1 F.2.1 d (lv_at hl j (wa_at hj)) (K H locs ls hH hS hl)
theorem wa_lload_n (F : FX D tys H0 p l s m args meth c own cc nL ret nm tb) {k : Fin 4} {i : Nat} {x : Int64} (d : decode cc pc = .ok (.lload_n k, 1)) (hi : (k : Nat) = i) (j : Nat) (hj : lv[j]? = some (i, .long x))
    (K : WA D H0 p l e R s m args below meth c nL Q ad h cells slots (pc + 1) lv (.long x :: st)) : WA D H0 p l e R s m args below meth c nL Q ad h cells slots pc lv st := fun H locs ls hH hS hl => lv_lload_n F.1 F.2.1 d hi (lv_at hl j (wa_at hj)) (K H locs ls hH hS hl)
theorem wa_lload (F : FX D tys H0 p l s m args meth c own cc nL ret nm tb) {i : Nat} {x : Int64} (d : decode cc pc = .ok (.lload i, 2)) (j : Nat) (hj : lv[j]? = some (i, .long x))
    (K : WA D H0 p l e R s m args below meth c nL Q ad h cells slots (pc + 2) lv (.long x :: st)) : WA D H0 p l e R s m args below meth c nL Q ad h cells slots pc lv st := fun H locs ls hH hS hl => lv_lload F.1 F.2.1 d (lv_at hl j (wa_at hj)) (K H locs ls hH hS hl)
theorem wa_aload_nN (F : FX D tys H0 p l s m args meth c own cc nL ret nm tb) {k : Fin 4} {i : Nat} (d : decode cc pc = .ok (.aload_n k, 1)) (hi : (k : Nat) = i) (j : Nat) (hj : lv[j]? = some (i, .null))
    (K : WA D H0 p l e R s m args below meth c nL Q ad h cells slots (pc + 1) lv (.null :: st)) : WA D H0 p l e R s m args below meth c nL Q ad h cells slots pc lv st := fun H locs ls hH hS hl => lv_aload_nN F.1 F.2.1 d hi (lv_at hl j (wa_at hj)) (K H locs ls hH hS hl)
theorem wa_aloadN (F : FX D tys H0 p l s m args meth c own cc nL ret nm tb) {i : Nat} (d : decode cc pc = .ok (.aload i, 2)) (j : Nat) (hj : lv[j]? = some (i, .null))
    (K : WA D H0 p l e R s m args below meth c nL Q ad h cells slots (pc + 2) lv (.null :: st)) : WA D H0 p l e R s m args below meth c nL Q ad h cells slots pc lv st := fun H locs ls hH hS hl => lv_aloadN F.1 F.2.1 d (lv_at hl j (wa_at hj)) (K H locs ls hH hS hl)
theorem wa_istore_n (F : FX D tys H0 p l s m args meth c own cc nL ret nm tb) {k : Fin 4} {i : Nat} {x : Int32} (d : decode cc pc = .ok (.istore_n k, 1)) (hi : (k : Nat) = i) (hn : i < nL) (hv : (i, Value.int x) :: lv.filter (lvP i) = lv')
    (K : WA D H0 p l e R s m args below meth c nL Q ad h cells slots (pc + 1) lv' st) : WA D H0 p l e R s m args below meth c nL Q ad h cells slots pc lv (.int x :: st) := fun H locs ls hH hS hl => lv_istore_n F.1 F.2.1 d hi hl hn (st_lv hv) (fun ls hl => K H locs ls hH hS hl)
theorem wa_istore (F : FX D tys H0 p l s m args meth c own cc nL ret nm tb) {i : Nat} {x : Int32} (d : decode cc pc = .ok (.istore i, 2)) (hn : i < nL) (hv : (i, Value.int x) :: lv.filter (lvP i) = lv')
    (K : WA D H0 p l e R s m args below meth c nL Q ad h cells slots (pc + 2) lv' st) : WA D H0 p l e R s m args below meth c nL Q ad h cells slots pc lv (.int x :: st) := fun H locs ls hH hS hl => lv_istore F.1 F.2.1 d hl hn (st_lv hv) (fun ls hl => K H locs ls hH hS hl)
theorem wa_astore_n (F : FX D tys H0 p l s m args meth c own cc nL ret nm tb) {k : Fin 4} {i : Nat} {x : Nat} (d : decode cc pc = .ok (.astore_n k, 1)) (hi : (k : Nat) = i) (hn : i < nL) (hv : (i, Value.ref x) :: lv.filter (lvP i) = lv')
    (K : WA D H0 p l e R s m args below meth c nL Q ad h cells slots (pc + 1) lv' st) : WA D H0 p l e R s m args below meth c nL Q ad h cells slots pc lv (.ref x :: st) := fun H locs ls hH hS hl => lv_astore_n F.1 F.2.1 d hi hl hn (st_lv hv) (fun ls hl => K H locs ls hH hS hl)
theorem wa_astore (F : FX D tys H0 p l s m args meth c own cc nL ret nm tb) {i : Nat} {x : Nat} (d : decode cc pc = .ok (.astore i, 2)) (hn : i < nL) (hv : (i, Value.ref x) :: lv.filter (lvP i) = lv')
    (K : WA D H0 p l e R s m args below meth c nL Q ad h cells slots (pc + 2) lv' st) : WA D H0 p l e R s m args below meth c nL Q ad h cells slots pc lv (.ref x :: st) := fun H locs ls hH hS hl => lv_astore F.1 F.2.1 d hl hn (st_lv hv) (fun ls hl => K H locs ls hH hS hl)
theorem wa_astore_nN (F : FX D tys H0 p l s m args meth c own cc nL ret nm tb) {k : Fin 4} {i : Nat} (d : decode cc pc = .ok (.astore_n k, 1)) (hi : (k : Nat) = i) (hn : i < nL) (hv : (i, Value.null) :: lv.filter (lvP i) = lv')
    (K : WA D H0 p l e R s m args below meth c nL Q ad h cells slots (pc + 1) lv' st) : WA D H0 p l e R s m args below meth c nL Q ad h cells slots pc lv (.null :: st) := fun H locs ls hH hS hl => lv_astore_nN F.1 F.2.1 d hi hl hn (st_lv hv) (fun ls hl => K H locs ls hH hS hl)
theorem wa_astoreN (F : FX D tys H0 p l s m args meth c own cc nL ret nm tb) {i : Nat} (d : decode cc pc = .ok (.astore i, 2)) (hn : i < nL) (hv : (i, Value.null) :: lv.filter (lvP i) = lv')
    (K : WA D H0 p l e R s m args below meth c nL Q ad h cells slots (pc + 2) lv' st) : WA D H0 p l e R s m args below meth c nL Q ad h cells slots pc lv (.null :: st) := fun H locs ls hH hS hl => lv_astoreN F.1 F.2.1 d hl hn (st_lv hv) (fun ls hl => K H locs ls hH hS hl)
theorem wa_lstore_n (F : FX D tys H0 p l s m args meth c own cc nL ret nm tb) {k : Fin 4} {i : Nat} {x : Int64} (d : decode cc pc = .ok (.lstore_n k, 1)) (hi : (k : Nat) = i) (hn : i + 1 < nL) (hv : (i, Value.long x) :: lv.filter (lvP2 i) = lv')
    (K : WA D H0 p l e R s m args below meth c nL Q ad h cells slots (pc + 1) lv' st) : WA D H0 p l e R s m args below meth c nL Q ad h cells slots pc lv (.long x :: st) := fun H locs ls hH hS hl => lv_lstore_n F.1 F.2.1 d hi hl hn (st_lv2 hv) (fun ls hl => K H locs ls hH hS hl)
theorem wa_iinc (F : FX D tys H0 p l s m args meth c own cc nL ret nm tb) {i j : Nat} {n : Int} {x v : Int32} (d : decode cc pc = .ok (.iinc i n, 3)) (hj : lv[j]? = some (i, .int x)) (hx : x + Int32.ofInt n = v) (hn : i < nL) (hv : (i, Value.int v) :: lv.filter (lvP i) = lv')
    (K : WA D H0 p l e R s m args below meth c nL Q ad h cells slots (pc + 3) lv' st) : WA D H0 p l e R s m args below meth c nL Q ad h cells slots pc lv st := fun H locs ls hH hS hl => lv_iinc F.1 F.2.1 d hl (wa_at hj) hx hn (st_lv hv) (fun ls hl => K H locs ls hH hS hl)
theorem wa_iadd (F : FX D tys H0 p l s m args meth c own cc nL ret nm tb) {x y : Int32} (d : decode cc pc = .ok (.iadd, 1))
    (K : WA D H0 p l e R s m args below meth c nL Q ad h cells slots (pc + 1) lv (.int (x + y) :: st)) : WA D H0 p l e R s m args below meth c nL Q ad h cells slots pc lv (.int y :: .int x :: st) := fun H locs ls hH hS hl => lv_iadd F.1 F.2.1 d (K H locs ls hH hS hl)
theorem wa_isub (F : FX D tys H0 p l s m args meth c own cc nL ret nm tb) {x y : Int32} (d : decode cc pc = .ok (.isub, 1))
    (K : WA D H0 p l e R s m args below meth c nL Q ad h cells slots (pc + 1) lv (.int (x - y) :: st)) : WA D H0 p l e R s m args below meth c nL Q ad h cells slots pc lv (.int y :: .int x :: st) := fun H locs ls hH hS hl => lv_isub F.1 F.2.1 d (K H locs ls hH hS hl)
theorem wa_imul (F : FX D tys H0 p l s m args meth c own cc nL ret nm tb) {x y : Int32} (d : decode cc pc = .ok (.imul, 1))
    (K : WA D H0 p l e R s m args below meth c nL Q ad h cells slots (pc + 1) lv (.int (x * y) :: st)) : WA D H0 p l e R s m args below meth c nL Q ad h cells slots pc lv (.int y :: .int x :: st) := fun H locs ls hH hS hl => lv_imul F.1 F.2.1 d (K H locs ls hH hS hl)
theorem wa_iand (F : FX D tys H0 p l s m args meth c own cc nL ret nm tb) {x y : Int32} (d : decode cc pc = .ok (.iand, 1))
    (K : WA D H0 p l e R s m args below meth c nL Q ad h cells slots (pc + 1) lv (.int (x &&& y) :: st)) : WA D H0 p l e R s m args below meth c nL Q ad h cells slots pc lv (.int y :: .int x :: st) := fun H locs ls hH hS hl => lv_iand F.1 F.2.1 d (K H locs ls hH hS hl)
theorem wa_ior (F : FX D tys H0 p l s m args meth c own cc nL ret nm tb) {x y : Int32} (d : decode cc pc = .ok (.ior, 1))
    (K : WA D H0 p l e R s m args below meth c nL Q ad h cells slots (pc + 1) lv (.int (x ||| y) :: st)) : WA D H0 p l e R s m args below meth c nL Q ad h cells slots pc lv (.int y :: .int x :: st) := fun H locs ls hH hS hl => lv_ior F.1 F.2.1 d (K H locs ls hH hS hl)
theorem wa_ixor (F : FX D tys H0 p l s m args meth c own cc nL ret nm tb) {x y : Int32} (d : decode cc pc = .ok (.ixor, 1))
    (K : WA D H0 p l e R s m args below meth c nL Q ad h cells slots (pc + 1) lv (.int (x ^^^ y) :: st)) : WA D H0 p l e R s m args below meth c nL Q ad h cells slots pc lv (.int y :: .int x :: st) := fun H locs ls hH hS hl => lv_ixor F.1 F.2.1 d (K H locs ls hH hS hl)
theorem wa_ishl (F : FX D tys H0 p l s m args meth c own cc nL ret nm tb) {x y : Int32} (d : decode cc pc = .ok (.ishl, 1))
    (K : WA D H0 p l e R s m args below meth c nL Q ad h cells slots (pc + 1) lv (.int (x <<< (y &&& 31)) :: st)) : WA D H0 p l e R s m args below meth c nL Q ad h cells slots pc lv (.int y :: .int x :: st) := fun H locs ls hH hS hl => lv_ishl F.1 F.2.1 d (K H locs ls hH hS hl)
theorem wa_ishr (F : FX D tys H0 p l s m args meth c own cc nL ret nm tb) {x y : Int32} (d : decode cc pc = .ok (.ishr, 1))
    (K : WA D H0 p l e R s m args below meth c nL Q ad h cells slots (pc + 1) lv (.int (x >>> (y &&& 31)) :: st)) : WA D H0 p l e R s m args below meth c nL Q ad h cells slots pc lv (.int y :: .int x :: st) := fun H locs ls hH hS hl => lv_ishr F.1 F.2.1 d (K H locs ls hH hS hl)
theorem wa_idiv (F : FX D tys H0 p l s m args meth c own cc nL ret nm tb) {x y : Int32} (hne : ¬ y = 0) (d : decode cc pc = .ok (.idiv, 1))
    (K : WA D H0 p l e R s m args below meth c nL Q ad h cells slots (pc + 1) lv (.int (x / y) :: st)) : WA D H0 p l e R s m args below meth c nL Q ad h cells slots pc lv (.int y :: .int x :: st) := fun H locs ls hH hS hl => lv_idiv F.1 F.2.1 d hne (K H locs ls hH hS hl)
theorem wa_irem (F : FX D tys H0 p l s m args meth c own cc nL ret nm tb) {x y : Int32} (hne : ¬ y = 0) (d : decode cc pc = .ok (.irem, 1))
    (K : WA D H0 p l e R s m args below meth c nL Q ad h cells slots (pc + 1) lv (.int (x - x / y * y) :: st)) : WA D H0 p l e R s m args below meth c nL Q ad h cells slots pc lv (.int y :: .int x :: st) := fun H locs ls hH hS hl => lv_irem F.1 F.2.1 d hne (K H locs ls hH hS hl)
theorem wa_iushr (F : FX D tys H0 p l s m args meth c own cc nL ret nm tb) {x y v : Int32} (hv : (x.toUInt32 >>> (y.toUInt32 &&& Int32.toUInt32 31)).toInt32 = v) (d : decode cc pc = .ok (.iushr, 1))
    (K : WA D H0 p l e R s m args below meth c nL Q ad h cells slots (pc + 1) lv (.int v :: st)) : WA D H0 p l e R s m args below meth c nL Q ad h cells slots pc lv (.int y :: .int x :: st) := fun H locs ls hH hS hl => lv_iushr F.1 F.2.1 d hv (K H locs ls hH hS hl)
theorem wa_lmul (F : FX D tys H0 p l s m args meth c own cc nL ret nm tb) {x y : Int64} (d : decode cc pc = .ok (.lmul, 1))
    (K : WA D H0 p l e R s m args below meth c nL Q ad h cells slots (pc + 1) lv (.long (x * y) :: st)) : WA D H0 p l e R s m args below meth c nL Q ad h cells slots pc lv (.long y :: .long x :: st) := fun H locs ls hH hS hl => lv_lmul F.1 F.2.1 d (K H locs ls hH hS hl)
theorem wa_lcmp (F : FX D tys H0 p l s m args meth c own cc nL ret nm tb) {x y : Int64} (d : decode cc pc = .ok (.lcmp, 1))
    (K : WA D H0 p l e R s m args below meth c nL Q ad h cells slots (pc + 1) lv (.int (lg_cmp x y) :: st)) : WA D H0 p l e R s m args below meth c nL Q ad h cells slots pc lv (.long y :: .long x :: st) := fun H locs ls hH hS hl => W.lcmp F.1 F.2.1 d (K H locs ls hH hS hl)
theorem wa_i2l (F : FX D tys H0 p l s m args meth c own cc nL ret nm tb) {x : Int32} {v : Int64} (d : decode cc pc = .ok (.i2l, 1)) (hv : x.toInt64 = v)
    (K : WA D H0 p l e R s m args below meth c nL Q ad h cells slots (pc + 1) lv (.long v :: st)) : WA D H0 p l e R s m args below meth c nL Q ad h cells slots pc lv (.int x :: st) := fun H locs ls hH hS hl => lv_i2l F.1 F.2.1 d hv (K H locs ls hH hS hl)
theorem wa_dup (F : FX D tys H0 p l s m args meth c own cc nL ret nm tb) {a : Value} (d : decode cc pc = .ok (.dup, 1)) (ha : a.category = 1)
    (K : WA D H0 p l e R s m args below meth c nL Q ad h cells slots (pc + 1) lv (a :: a :: st)) : WA D H0 p l e R s m args below meth c nL Q ad h cells slots pc lv (a :: st) := fun H locs ls hH hS hl => lv_dup F.1 F.2.1 d ((cat_cV ad a).trans ha) (K H locs ls hH hS hl)
theorem wa_pop (F : FX D tys H0 p l s m args meth c own cc nL ret nm tb) {a : Value} (d : decode cc pc = .ok (.pop, 1)) (ha : a.category = 1)
    (K : WA D H0 p l e R s m args below meth c nL Q ad h cells slots (pc + 1) lv st) : WA D H0 p l e R s m args below meth c nL Q ad h cells slots pc lv (a :: st) := fun H locs ls hH hS hl => lv_pop F.1 F.2.1 d ((cat_cV ad a).trans ha) (K H locs ls hH hS hl)
theorem wa_dup_x1 (F : FX D tys H0 p l s m args meth c own cc nL ret nm tb) {a b : Value} (d : decode cc pc = .ok (.dup_x1, 1)) (ha : a.category = 1) (hb : b.category = 1)
    (K : WA D H0 p l e R s m args below meth c nL Q ad h cells slots (pc + 1) lv (a :: b :: a :: st)) : WA D H0 p l e R s m args below meth c nL Q ad h cells slots pc lv (a :: b :: st) := fun H locs ls hH hS hl => lv_dup_x1 F.1 F.2.1 d ((cat_cV ad a).trans ha) ((cat_cV ad b).trans hb) (K H locs ls hH hS hl)
theorem wa_dup2 (F : FX D tys H0 p l s m args meth c own cc nL ret nm tb) {a b : Value} (d : decode cc pc = .ok (.dup2, 1)) (ha : a.category = 1) (hb : b.category = 1)
    (K : WA D H0 p l e R s m args below meth c nL Q ad h cells slots (pc + 1) lv (a :: b :: a :: b :: st)) : WA D H0 p l e R s m args below meth c nL Q ad h cells slots pc lv (a :: b :: st) := fun H locs ls hH hS hl => lv_dup2_11 F.1 F.2.1 d ((cat_cV ad a).trans ha) ((cat_cV ad b).trans hb) (K H locs ls hH hS hl)
theorem wa_if_eq (F : FX D tys H0 p l s m args meth c own cc nL ret nm tb) {x : Int32} {off : Int} {tgt : Nat} (d : decode cc pc = .ok (.ifCond .eq off, 3)) (ht : (pc : Int) + off = (tgt : Int))
    (kt : x = 0 → WA D H0 p l e R s m args below meth c nL Q ad h cells slots tgt lv st) (kf : ¬ x = 0 → WA D H0 p l e R s m args below meth c nL Q ad h cells slots (pc + 3) lv st) : WA D H0 p l e R s m args below meth c nL Q ad h cells slots pc lv (.int x :: st) := fun H locs ls hH hS hl => lv_if_eq F.1 F.2.1 d ht (fun z => kt z H locs ls hH hS hl) (fun z => kf z H locs ls hH hS hl)
theorem wa_icmp_eq (F : FX D tys H0 p l s m args meth c own cc nL ret nm tb) {x y : Int32} {off : Int} {tgt : Nat} (d : decode cc pc = .ok (.if_icmp .eq off, 3)) (ht : (pc : Int) + off = (tgt : Int))
    (kt : x = y → WA D H0 p l e R s m args below meth c nL Q ad h cells slots tgt lv st) (kf : ¬ x = y → WA D H0 p l e R s m args below meth c nL Q ad h cells slots (pc + 3) lv st) : WA D H0 p l e R s m args below meth c nL Q ad h cells slots pc lv (.int y :: .int x :: st) := fun H locs ls hH hS hl => lv_icmp_eq F.1 F.2.1 d ht (fun z => kt z H locs ls hH hS hl) (fun z => kf z H locs ls hH hS hl)
theorem wa_if_ne (F : FX D tys H0 p l s m args meth c own cc nL ret nm tb) {x : Int32} {off : Int} {tgt : Nat} (d : decode cc pc = .ok (.ifCond .ne off, 3)) (ht : (pc : Int) + off = (tgt : Int))
    (kt : ¬ x = 0 → WA D H0 p l e R s m args below meth c nL Q ad h cells slots tgt lv st) (kf : x = 0 → WA D H0 p l e R s m args below meth c nL Q ad h cells slots (pc + 3) lv st) : WA D H0 p l e R s m args below meth c nL Q ad h cells slots pc lv (.int x :: st) := fun H locs ls hH hS hl => lv_if_ne F.1 F.2.1 d ht (fun z => kt z H locs ls hH hS hl) (fun z => kf z H locs ls hH hS hl)
theorem wa_icmp_ne (F : FX D tys H0 p l s m args meth c own cc nL ret nm tb) {x y : Int32} {off : Int} {tgt : Nat} (d : decode cc pc = .ok (.if_icmp .ne off, 3)) (ht : (pc : Int) + off = (tgt : Int))
    (kt : ¬ x = y → WA D H0 p l e R s m args below meth c nL Q ad h cells slots tgt lv st) (kf : x = y → WA D H0 p l e R s m args below meth c nL Q ad h cells slots (pc + 3) lv st) : WA D H0 p l e R s m args below meth c nL Q ad h cells slots pc lv (.int y :: .int x :: st) := fun H locs ls hH hS hl => lv_icmp_ne F.1 F.2.1 d ht (fun z => kt z H locs ls hH hS hl) (fun z => kf z H locs ls hH hS hl)
theorem wa_if_lt (F : FX D tys H0 p l s m args meth c own cc nL ret nm tb) {x : Int32} {off : Int} {tgt : Nat} (d : decode cc pc = .ok (.ifCond .lt off, 3)) (ht : (pc : Int) + off = (tgt : Int))
    (kt : x < 0 → WA D H0 p l e R s m args below meth c nL Q ad h cells slots tgt lv st) (kf : ¬ x < 0 → WA D H0 p l e R s m args below meth c nL Q ad h cells slots (pc + 3) lv st) : WA D H0 p l e R s m args below meth c nL Q ad h cells slots pc lv (.int x :: st) := fun H locs ls hH hS hl => lv_if_lt F.1 F.2.1 d ht (fun z => kt z H locs ls hH hS hl) (fun z => kf z H locs ls hH hS hl)
theorem wa_icmp_lt (F : FX D tys H0 p l s m args meth c own cc nL ret nm tb) {x y : Int32} {off : Int} {tgt : Nat} (d : decode cc pc = .ok (.if_icmp .lt off, 3)) (ht : (pc : Int) + off = (tgt : Int))
    (kt : x < y → WA D H0 p l e R s m args below meth c nL Q ad h cells slots tgt lv st) (kf : ¬ x < y → WA D H0 p l e R s m args below meth c nL Q ad h cells slots (pc + 3) lv st) : WA D H0 p l e R s m args below meth c nL Q ad h cells slots pc lv (.int y :: .int x :: st) := fun H locs ls hH hS hl => lv_icmp_lt F.1 F.2.1 d ht (fun z => kt z H locs ls hH hS hl) (fun z => kf z H locs ls hH hS hl)
theorem wa_if_ge (F : FX D tys H0 p l s m args meth c own cc nL ret nm tb) {x : Int32} {off : Int} {tgt : Nat} (d : decode cc pc = .ok (.ifCond .ge off, 3)) (ht : (pc : Int) + off = (tgt : Int))
    (kt : 0 ≤ x → WA D H0 p l e R s m args below meth c nL Q ad h cells slots tgt lv st) (kf : ¬ 0 ≤ x → WA D H0 p l e R s m args below meth c nL Q ad h cells slots (pc + 3) lv st) : WA D H0 p l e R s m args below meth c nL Q ad h cells slots pc lv (.int x :: st) := fun H locs ls hH hS hl => lv_if_ge F.1 F.2.1 d ht (fun z => kt z H locs ls hH hS hl) (fun z => kf z H locs ls hH hS hl)
theorem wa_icmp_ge (F : FX D tys H0 p l s m args meth c own cc nL ret nm tb) {x y : Int32} {off : Int} {tgt : Nat} (d : decode cc pc = .ok (.if_icmp .ge off, 3)) (ht : (pc : Int) + off = (tgt : Int))
    (kt : y ≤ x → WA D H0 p l e R s m args below meth c nL Q ad h cells slots tgt lv st) (kf : ¬ y ≤ x → WA D H0 p l e R s m args below meth c nL Q ad h cells slots (pc + 3) lv st) : WA D H0 p l e R s m args below meth c nL Q ad h cells slots pc lv (.int y :: .int x :: st) := fun H locs ls hH hS hl => lv_icmp_ge F.1 F.2.1 d ht (fun z => kt z H locs ls hH hS hl) (fun z => kf z H locs ls hH hS hl)
theorem wa_if_gt (F : FX D tys H0 p l s m args meth c own cc nL ret nm tb) {x : Int32} {off : Int} {tgt : Nat} (d : decode cc pc = .ok (.ifCond .gt off, 3)) (ht : (pc : Int) + off = (tgt : Int))
    (kt : 0 < x → WA D H0 p l e R s m args below meth c nL Q ad h cells slots tgt lv st) (kf : ¬ 0 < x → WA D H0 p l e R s m args below meth c nL Q ad h cells slots (pc + 3) lv st) : WA D H0 p l e R s m args below meth c nL Q ad h cells slots pc lv (.int x :: st) := fun H locs ls hH hS hl => lv_if_gt F.1 F.2.1 d ht (fun z => kt z H locs ls hH hS hl) (fun z => kf z H locs ls hH hS hl)
theorem wa_icmp_gt (F : FX D tys H0 p l s m args meth c own cc nL ret nm tb) {x y : Int32} {off : Int} {tgt : Nat} (d : decode cc pc = .ok (.if_icmp .gt off, 3)) (ht : (pc : Int) + off = (tgt : Int))
    (kt : y < x → WA D H0 p l e R s m args below meth c nL Q ad h cells slots tgt lv st) (kf : ¬ y < x → WA D H0 p l e R s m args below meth c nL Q ad h cells slots (pc + 3) lv st) : WA D H0 p l e R s m args below meth c nL Q ad h cells slots pc lv (.int y :: .int x :: st) := fun H locs ls hH hS hl => lv_icmp_gt F.1 F.2.1 d ht (fun z => kt z H locs ls hH hS hl) (fun z => kf z H locs ls hH hS hl)
theorem wa_if_le (F : FX D tys H0 p l s m args meth c own cc nL ret nm tb) {x : Int32} {off : Int} {tgt : Nat} (d : decode cc pc = .ok (.ifCond .le off, 3)) (ht : (pc : Int) + off = (tgt : Int))
    (kt : x ≤ 0 → WA D H0 p l e R s m args below meth c nL Q ad h cells slots tgt lv st) (kf : ¬ x ≤ 0 → WA D H0 p l e R s m args below meth c nL Q ad h cells slots (pc + 3) lv st) : WA D H0 p l e R s m args below meth c nL Q ad h cells slots pc lv (.int x :: st) := fun H locs ls hH hS hl => lv_if_le F.1 F.2.1 d ht (fun z => kt z H locs ls hH hS hl) (fun z => kf z H locs ls hH hS hl)
theorem wa_icmp_le (F : FX D tys H0 p l s m args meth c own cc nL ret nm tb) {x y : Int32} {off : Int} {tgt : Nat} (d : decode cc pc = .ok (.if_icmp .le off, 3)) (ht : (pc : Int) + off = (tgt : Int))
    (kt : x ≤ y → WA D H0 p l e R s m args below meth c nL Q ad h cells slots tgt lv st) (kf : ¬ x ≤ y → WA D H0 p l e R s m args below meth c nL Q ad h cells slots (pc + 3) lv st) : WA D H0 p l e R s m args below meth c nL Q ad h cells slots pc lv (.int y :: .int x :: st) := fun H locs ls hH hS hl => lv_icmp_le F.1 F.2.1 d ht (fun z => kt z H locs ls hH hS hl) (fun z => kf z H locs ls hH hS hl)
theorem wa_goto (F : FX D tys H0 p l s m args meth c own cc nL ret nm tb) {off : Int} {tgt : Nat} (d : decode cc pc = .ok (.goto off, 3)) (ht : (pc : Int) + off = (tgt : Int))
    (K : WA D H0 p l e R s m args below meth c nL Q ad h cells slots tgt lv st) : WA D H0 p l e R s m args below meth c nL Q ad h cells slots pc lv st := fun H locs ls hH hS hl => lv_goto F.1 F.2.1 d ht (K H locs ls hH hS hl)
theorem wa_ifnull (F : FX D tys H0 p l s m args meth c own cc nL ret nm tb) {n : Nat} {off : Int} (d : decode cc pc = .ok (.ifnull off, 3))
    (K : WA D H0 p l e R s m args below meth c nL Q ad h cells slots (pc + 3) lv st) : WA D H0 p l e R s m args below meth c nL Q ad h cells slots pc lv (.ref n :: st) := fun H locs ls hH hS hl => lv_ifnull F.1 F.2.1 d (K H locs ls hH hS hl)
theorem wa_ifnullN (F : FX D tys H0 p l s m args meth c own cc nL ret nm tb) {off : Int} {tgt : Nat} (d : decode cc pc = .ok (.ifnull off, 3)) (ht : (pc : Int) + off = (tgt : Int))
    (K : WA D H0 p l e R s m args below meth c nL Q ad h cells slots tgt lv st) : WA D H0 p l e R s m args below meth c nL Q ad h cells slots pc lv (.null :: st) := fun H locs ls hH hS hl => lv_ifnullN F.1 F.2.1 d ht (K H locs ls hH hS hl)
theorem wa_ifnonnull (F : FX D tys H0 p l s m args meth c own cc nL ret nm tb) {n : Nat} {off : Int} {tgt : Nat} (d : decode cc pc = .ok (.ifnonnull off, 3)) (ht : (pc : Int) + off = (tgt : Int))
    (K : WA D H0 p l e R s m args below meth c nL Q ad h cells slots tgt lv st) : WA D H0 p l e R s m args below meth c nL Q ad h cells slots pc lv (.ref n :: st) := fun H locs ls hH hS hl => lv_ifnonnull F.1 F.2.1 d ht (K H locs ls hH hS hl)
theorem wa_ifnonnullN (F : FX D tys H0 p l s m args meth c own cc nL ret nm tb) {off : Int} (d : decode cc pc = .ok (.ifnonnull off, 3))
    (K : WA D H0 p l e R s m args below meth c nL Q ad h cells slots (pc + 3) lv st) : WA D H0 p l e R s m args below meth c nL Q ad h cells slots pc lv (.null :: st) := fun H locs ls hH hS hl => lv_ifnonnullN F.1 F.2.1 d (K H locs ls hH hS hl)
theorem wa_acmp_eq (F : FX D tys H0 p l s m args meth c own cc nL ret nm tb) {a b : Nat} {ea eb : va_E} {off : Int} {tgt : Nat} (he1 : h a = some ea) (he2 : h b = some eb) (d : decode cc pc = .ok (.if_acmp .eq off, 3)) (ht : (pc : Int) + off = (tgt : Int))
    (kt : a = b → WA D H0 p l e R s m args below meth c nL Q ad h cells slots tgt lv st) (kf : ¬ a = b → WA D H0 p l e R s m args below meth c nL Q ad h cells slots (pc + 3) lv st) : WA D H0 p l e R s m args below meth c nL Q ad h cells slots pc lv (.ref b :: .ref a :: st) := fun H locs ls hH hS hl => lv_acmp_eq (rx := some (ad a)) (ry := some (ad b)) F.1 F.2.1 d ht (fun z => kt (hH.2.2.2 a b ea eb he1 he2 (Option.some.inj z)) H locs ls hH hS hl) (fun z => kf (fun z2 => z (by rw [z2])) H locs ls hH hS hl)
theorem wa_acmp_ne (F : FX D tys H0 p l s m args meth c own cc nL ret nm tb) {a b : Nat} {ea eb : va_E} {off : Int} {tgt : Nat} (he1 : h a = some ea) (he2 : h b = some eb) (d : decode cc pc = .ok (.if_acmp .ne off, 3)) (ht : (pc : Int) + off = (tgt : Int))
    (kt : ¬ a = b → WA D H0 p l e R s m args below meth c nL Q ad h cells slots tgt lv st) (kf : a = b → WA D H0 p l e R s m args below meth c nL Q ad h cells slots (pc + 3) lv st) : WA D H0 p l e R s m args below meth c nL Q ad h cells slots pc lv (.ref b :: .ref a :: st) := fun H locs ls hH hS hl => lv_acmp_ne (rx := some (ad a)) (ry := some (ad b)) F.1 F.2.1 d ht (fun z => kt (fun z2 => z (by rw [z2])) H locs ls hH hS hl) (fun z => kf (hH.2.2.2 a b ea eb he1 he2 (Option.some.inj z)) H locs ls hH hS hl)
theorem wa_tableIn (F : FX D tys H0 p l s m args meth c own cc nL ret nm tb) {dflt lo hi : Int} {offs : Array Int} {len : Nat} {x : Int32} {off : Int} {tgt : Nat} (d : decode cc pc = .ok (.tableswitch dflt lo hi offs, len)) (h1 : ¬ x.toInt < lo) (h2 : ¬ hi < x.toInt) (ho : offs[(x.toInt - lo).toNat]? = some off) (ht : (pc : Int) + off = (tgt : Int))
    (K : WA D H0 p l e R s m args below meth c nL Q ad h cells slots tgt lv st) : WA D H0 p l e R s m args below meth c nL Q ad h cells slots pc lv (.int x :: st) := fun H locs ls hH hS hl => lv_tableIn F.1 F.2.1 d h1 h2 ho ht (K H locs ls hH hS hl)
theorem wa_tableOut (F : FX D tys H0 p l s m args meth c own cc nL ret nm tb) {dflt lo hi : Int} {offs : Array Int} {len : Nat} {x : Int32} {tgt : Nat} (d : decode cc pc = .ok (.tableswitch dflt lo hi offs, len)) (hx : x.toInt < lo ∨ hi < x.toInt) (ht : (pc : Int) + dflt = (tgt : Int))
    (K : WA D H0 p l e R s m args below meth c nL Q ad h cells slots tgt lv st) : WA D H0 p l e R s m args below meth c nL Q ad h cells slots pc lv (.int x :: st) := fun H locs ls hH hS hl => lv_tableOut F.1 F.2.1 d hx ht (K H locs ls hH hS hl)
theorem wa_lv (ks : List Nat) (hv : lv_pick lv ks = lv') (K : WA D H0 p l e R s m args below meth c nL Q ad h cells slots pc lv' st) : WA D H0 p l e R s m args below meth c nL Q ad h cells slots pc lv st := by
  intro H locs ls hH hS hl
  refine K H locs ls hH hS (lv_sub hl ks ?_)
  subst hv
  unfold lv_pick
  rw [List.map_filterMap]
  congr 1
  funext k
  rw [List.getElem?_map]
theorem wa_widen {k n : Nat} (h1 : cells ≤ k) (h2 : slots ≤ n) (K : WA D H0 p l e R s m args below meth c nL Q ad h k n pc lv st) : WA D H0 p l e R s m args below meth c nL Q ad h cells slots pc lv st := fun H locs ls hH hS hl => W.widen h1 h2 (K H locs ls hH hS hl)
end RULES
end
section
section HEAPR
variable {D : va_G} {tys : List (ClassId × FieldType)} {H0 : Heap} {p : Program} {l : Launch} {e : Env} {R : Room} {s : State} {m : MethodId} {args : Array Value} {below : List Frame} {meth : Method} {c : Code} {own : String} {cc : ByteArray} {nL : Nat} {ret : Option FieldType} {nm : String} {tb : List ExceptionTableEntry} {Q : State → Prop} {ad : Nat → Nat} {h : Hp} {cells slots pc : Nat} {lv lv' : List (Nat × Value)} {st : List Value}
variable {ci N : Nat} {C : String} {T : u_T} {ty : Nat → FieldType}
theorem FX.lay (F : FX D tys H0 p l s m args meth c own cc nL ret nm tb) (y : LY ci C T N ty) : ∀ w ∈ u_ws C T N, w.before args s = true := fun w hw => F.2.2.2.2.1 w (y.2.1 w hw).1 (y.2.1 w hw).2
theorem wa_getf (F : FX D tys H0 p l s m args meth c own cc nL ret nm tb) (y : LY ci C T N ty) {n : Nat} {fs : List Value} (he : h n = some (.inr (ci, fs))) (k : Nat) (hk : k < N) {index : Nat} (w : Cond.fieldLink own index C (T k).2.1 (T k).2.2.1 ∈ lw_tbl) {v : Value} (hv : fs[k]? = some v) (d : decode cc pc = .ok (.getfield index, 3))
    (K : WA D H0 p l e R s m args below meth c nL Q ad h cells slots (pc + 3) lv (v :: st)) : WA D H0 p l e R s m args below meth c nL Q ad h cells slots pc lv (.ref n :: st) := fun H locs ls hH hS hl =>
  va_get F.1 F.2.1 (Ts := u_ws C T N) (F.lay y) (fun _ hw => hw) F.2.2.2.1 F.2.2.2.2.2.1.1 (hH.get he) 0 (fs := fs.map (cV ad)) rfl y.1 k hk (F.2.2.2.2.1 _ w rfl) (ref := C) (fun x hx => by rw [y.2.2.2.2 k hk] at hx; exact hx) (v := cV ad v) (by rw [List.getElem?_map, hv]; rfl) d (K H locs ls hH hS hl)
theorem wa_getN (F : FX D tys H0 p l s m args meth c own cc nL ret nm tb) (y : LY ci C T N ty) {n : Nat} {fs : List Value} (he : h n = some (.inr (ci, fs))) (k : Nat) (hk : k < N) {index : Nat} {host : String} (w : Cond.fieldLinkNest own index C (T k).2.1 (T k).2.2.1 host ∈ lw_tbl) {v : Value} (hv : fs[k]? = some v) (d : decode cc pc = .ok (.getfield index, 3))
    (K : WA D H0 p l e R s m args below meth c nL Q ad h cells slots (pc + 3) lv (v :: st)) : WA D H0 p l e R s m args below meth c nL Q ad h cells slots pc lv (.ref n :: st) := fun H locs ls hH hS hl =>
  va_getN F.1 F.2.1 (Ts := u_ws C T N) (F.lay y) (fun _ hw => hw) F.2.2.2.1 F.2.2.2.2.2.1.1 (hH.get he) 0 (fs := fs.map (cV ad)) rfl y.1 k hk (va_Nw.use rfl (F.2.2.2.2.2.1.2.1 _ _ _ _ _ _ w)) (ref := C) (fun x hx => by rw [y.2.2.2.2 k hk] at hx; exact hx) (v := cV ad v) (by rw [List.getElem?_map, hv]; rfl) d (K H locs ls hH hS hl)
set_option maxHeartbeats 1000000 in
theorem wa_putf (F : FX D tys H0 p l s m args meth c own cc nL ret nm tb) (y : LY ci C T N ty) {n : Nat} {fs : List Value} (he : h n = some (.inr (ci, fs))) (k : Nat) (hk : k < N) {index : Nat} (w : Cond.fieldLink own index C (T k).2.1 (T k).2.2.1 ∈ lw_tbl) (hfin : (T k).2.2.2 = false) {v : Value} (hn : narrow (ty k) (cV ad v) = cV ad v) (hfit : fits (ty k) (cV ad v) = true) (hlen : k < fs.length) (d : decode cc pc = .ok (.putfield index, 3))
    {h' : Hp} (hh : va_up h n (some (.inr (ci, fs.set k v))) = h')
    (K : WA D H0 p l e R s m args below meth c nL Q ad h' cells slots (pc + 3) lv st) : WA D H0 p l e R s m args below meth c nL Q ad h cells slots pc lv (v :: .ref n :: st) := by
  subst hh
  intro H locs ls hH hS hl0
  have hts := F.lay y
  have hap := va_apart (own := own) hts (fun _ hw => hw) ty y.2.2.1 y.2.2.2.1 F.2.2.2.2.2.1.1 y.1
  have hq : ∃ r : vw_C, vwCl[ci]? = some r ∧ t_OB (ad n) (D.1 ci) r.2.2 (D.2 ci) H (vp_V (fs.map (cV ad))) := (hH.2.2.1 n _ he).2
  obtain ⟨r, h1, cell, q1, q2, q3, q4⟩ := hq
  have hr : r = (C, T, N) := Option.some.inj (h1.symm.trans y.1)
  subst hr
  obtain ⟨hSl, hfc, kC, hkC, hkind⟩ := F.2.2.2.2.2.1.1.1 ci _ y.1
  obtain ⟨cf, kf, fi, f, hi, hsl⟩ := hSl k hk
  have hlay := hts _ (u_in_lay hk)
  unfold u_lay at hlay
  rw [if_neg (by rw [hfin]; decide)] at hlay
  have hst := (u_facts hfc hkC (u_lays hts (fun _ hw => hw) hk) hi).1
  have h6 := u_store hfc hkC hkind hlay hi (y.2.2.1 k hk) hn hfit
  have hi' : s.fieldFound? C (T k).2.1 (T k).2.2.1 = some (cf, kf, fi, f) := by
    have e1 := y.2.2.2.2 k hk
    simp only at hi
    rw [e1] at hi
    exact hi
  refine W.putK F.1 F.2.1 (f := f) ⟨F.2.2.2.1, F.2.2.2.2.1 _ w rfl, ⟨_, _, _, hi'⟩, hst⟩ (by rw [q2]; exact h6) q1 q3 (by rw [hsl]; exact k2_hasslot (q4 k hk)) rfl rfl d fun H' e1 e2 e3 => ?_
  rw [hsl] at e1 ⊢
  refine K H' _ ls (hH.put he e2 e3 ?_) (hS.put e2 e3 (hH.2.2.1 n _ he).1) hl0
  refine ⟨_, y.1, t_OB.to (V := updV (vp_V (fs.map (cV ad))) k (cV ad v)) ⟨_, e1, q2, q3, t_set q4 hap hk _⟩ (fun j _ => ?_)⟩
  rw [vp_updV_set (by simpa using hlen) (cV ad v) j, ← List.map_set]
set_option maxHeartbeats 1000000 in
theorem wa_putN (F : FX D tys H0 p l s m args meth c own cc nL ret nm tb) (y : LY ci C T N ty) {n : Nat} {fs : List Value} (he : h n = some (.inr (ci, fs))) (k : Nat) (hk : k < N) {index : Nat} {host : String} (w : Cond.fieldLinkNest own index C (T k).2.1 (T k).2.2.1 host ∈ lw_tbl) (hfin : (T k).2.2.2 = false) {v : Value} (hn : narrow (ty k) (cV ad v) = cV ad v) (hfit : fits (ty k) (cV ad v) = true) (hlen : k < fs.length) (d : decode cc pc = .ok (.putfield index, 3))
    {h' : Hp} (hh : va_up h n (some (.inr (ci, fs.set k v))) = h')
    (K : WA D H0 p l e R s m args below meth c nL Q ad h' cells slots (pc + 3) lv st) : WA D H0 p l e R s m args below meth c nL Q ad h cells slots pc lv (v :: .ref n :: st) := by
  subst hh
  intro H locs ls hH hS hl0
  have hts := F.lay y
  have hap := va_apart (own := own) hts (fun _ hw => hw) ty y.2.2.1 y.2.2.2.1 F.2.2.2.2.2.1.1 y.1
  have hq : ∃ r : vw_C, vwCl[ci]? = some r ∧ t_OB (ad n) (D.1 ci) r.2.2 (D.2 ci) H (vp_V (fs.map (cV ad))) := (hH.2.2.1 n _ he).2
  obtain ⟨r, h1, cell, q1, q2, q3, q4⟩ := hq
  have hr : r = (C, T, N) := Option.some.inj (h1.symm.trans y.1)
  subst hr
  obtain ⟨hSl, hfc, kC, hkC, hkind⟩ := F.2.2.2.2.2.1.1.1 ci _ y.1
  obtain ⟨cf, kf, fi, f, hi, hsl⟩ := hSl k hk
  have hlay := hts _ (u_in_lay hk)
  unfold u_lay at hlay
  rw [if_neg (by rw [hfin]; decide)] at hlay
  have hst := (u_facts hfc hkC (u_lays hts (fun _ hw => hw) hk) hi).1
  have h6 := u_store hfc hkC hkind hlay hi (y.2.2.1 k hk) hn hfit
  have hi' : s.fieldFound? C (T k).2.1 (T k).2.2.1 = some (cf, kf, fi, f) := by
    have e1 := y.2.2.2.2 k hk
    simp only at hi
    rw [e1] at hi
    exact hi
  refine va_WputK F.1 F.2.1 (f := f) F.2.2.2.1 (va_Nw.use rfl (F.2.2.2.2.2.1.2.1 _ _ _ _ _ _ w)) hi' hst (by rw [q2]; exact h6) q1 q3 (by rw [hsl]; exact k2_hasslot (q4 k hk)) rfl rfl d fun H' e1 e2 e3 => ?_
  rw [hsl] at e1 ⊢
  refine K H' _ ls (hH.put he e2 e3 ?_) (hS.put e2 e3 (hH.2.2.1 n _ he).1) hl0
  refine ⟨_, y.1, t_OB.to (V := updV (vp_V (fs.map (cV ad))) k (cV ad v)) ⟨_, e1, q2, q3, t_set q4 hap hk _⟩ (fun j _ => ?_)⟩
  rw [vp_updV_set (by simpa using hlen) (cV ad v) j, ← List.map_set]
set_option maxHeartbeats 1000000 in
theorem wa_putF (F : FX D tys H0 p l s m args meth c own cc nL ret nm tb) (hin : nm = "<init>") (hown : C = own) (y : LY ci C T N ty) {n : Nat} {fs : List Value} (he : h n = some (.inr (ci, fs))) (k : Nat) (hk : k < N) {index : Nat} (w : Cond.fieldLink own index C (T k).2.1 (T k).2.2.1 ∈ lw_tbl) (hfin : (T k).2.2.2 = true) {v : Value} (hn : narrow (ty k) (cV ad v) = cV ad v) (hfit : fits (ty k) (cV ad v) = true) (hlen : k < fs.length) (d : decode cc pc = .ok (.putfield index, 3))
    {h' : Hp} (hh : va_up h n (some (.inr (ci, fs.set k v))) = h')
    (K : WA D H0 p l e R s m args below meth c nL Q ad h' cells slots (pc + 3) lv st) : WA D H0 p l e R s m args below meth c nL Q ad h cells slots pc lv (v :: .ref n :: st) := by
  subst hh
  intro H locs ls hH hS hl0
  have hts := F.lay y
  have hap := va_apart (own := own) hts (fun _ hw => hw) ty y.2.2.1 y.2.2.2.1 F.2.2.2.2.2.1.1 y.1
  have hq : ∃ r : vw_C, vwCl[ci]? = some r ∧ t_OB (ad n) (D.1 ci) r.2.2 (D.2 ci) H (vp_V (fs.map (cV ad))) := (hH.2.2.1 n _ he).2
  obtain ⟨r, h1, cell, q1, q2, q3, q4⟩ := hq
  have hr : r = (C, T, N) := Option.some.inj (h1.symm.trans y.1)
  subst hr
  obtain ⟨hSl, hfc, kC, hkC, hkind⟩ := F.2.2.2.2.2.1.1.1 ci _ y.1
  obtain ⟨cf, kf, fi, f, hi, hsl⟩ := hSl k hk
  have hlay := hts _ (u_in_lay hk)
  unfold u_lay at hlay
  rw [if_pos hfin] at hlay
  have hst := (u_facts hfc hkC (u_lays hts (fun _ hw => hw) hk) hi).1
  have hcf : m.cls = cf := by
    obtain ⟨_, _, c', _, _, _, -, -, hf', -, -, -, hown2, -⟩ := Cond.laysFinal_spec hlay
    have e1 : c' = cf := by have := hi.symm.trans hf'; simp at this; exact this.1.symm
    rw [y.2.2.2.2 k hk, hown] at hown2
    rw [← e1]; exact Option.some.inj (F.2.2.2.1.symm.trans hown2)
  have h6 := u_fits hfc hkC hkind (Or.inr hlay) hi (y.2.2.1 k hk) hn hfit
  have hi' : s.fieldFound? C (T k).2.1 (T k).2.2.1 = some (cf, kf, fi, f) := by
    have e1 := y.2.2.2.2 k hk
    simp only at hi
    rw [e1] at hi
    exact hi
  refine W.putFinK F.1 F.2.1 F.2.2.2.1 (F.2.2.2.2.1 _ w rfl) hi' hst hcf (F.2.2.2.2.2.2.2.2.2.1.trans hin) (by rw [q2]; exact h6) q1 q3 (by rw [hsl]; exact k2_hasslot (q4 k hk)) rfl rfl d fun H' e1 e2 e3 => ?_
  rw [hsl] at e1 ⊢
  refine K H' _ ls (hH.put he e2 e3 ?_) (hS.put e2 e3 (hH.2.2.1 n _ he).1) hl0
  refine ⟨_, y.1, t_OB.to (V := updV (vp_V (fs.map (cV ad))) k (cV ad v)) ⟨_, e1, q2, q3, t_set q4 hap hk _⟩ (fun j _ => ?_)⟩
  rw [vp_updV_set (by simpa using hlen) (cV ad v) j, ← List.map_set]
/-! arrays -/
theorem wa_iald (F : FX D tys H0 p l s m args meth c own cc nL ret nm tb) (t : Nat) {cI : ClassId} (ht : tys[t]? = some (cI, .int)) {a N0 : Nat} {f : Nat → Int32} (he : h a = some (.inl (cI, N0, .inl f))) {i : Int32} (k : Nat) (hi : i = nI k) (hk : k < N0) (hN : N0 < 2 ^ 31) (d : decode cc pc = .ok (.iaload, 1))
    (K : WA D H0 p l e R s m args below meth c nL Q ad h cells slots (pc + 1) lv (.int (f k) :: st)) : WA D H0 p l e R s m args below meth c nL Q ad h cells slots pc lv (.int i :: .ref a :: st) := fun H locs ls hH hS hl => by
  subst hi
  have K' := K H locs ls hH hS hl
  have e1 : (nI k).toNatClampNeg = k := nI_clamp (by omega)
  exact va_iald F.1 F.2.1 F.2.2.2.2.2.1.1 (hH.get he) 0 t (cA := cI) (n := N0) (f := f) rfl ht (vp_in_nI hk hN) d (by rw [e1]; exact K')
theorem wa_zald (F : FX D tys H0 p l s m args meth c own cc nL ret nm tb) (t : Nat) {cI : ClassId} (ht : tys[t]? = some (cI, .boolean)) {a N0 : Nat} {f : Nat → Int32} (he : h a = some (.inl (cI, N0, .inl f))) {i : Int32} (k : Nat) (hi : i = nI k) (hk : k < N0) (hN : N0 < 2 ^ 31) (d : decode cc pc = .ok (.baload, 1))
    (K : WA D H0 p l e R s m args below meth c nL Q ad h cells slots (pc + 1) lv (.int (f k) :: st)) : WA D H0 p l e R s m args below meth c nL Q ad h cells slots pc lv (.int i :: .ref a :: st) := fun H locs ls hH hS hl => by
  subst hi
  have K' := K H locs ls hH hS hl
  have e1 : (nI k).toNatClampNeg = k := nI_clamp (by omega)
  exact va_zald F.1 F.2.1 F.2.2.2.2.2.1.1 (hH.get he) 0 t (cA := cI) (n := N0) (f := f) rfl ht (vp_in_nI hk hN) d (by rw [e1]; exact K')
theorem wa_lald (F : FX D tys H0 p l s m args meth c own cc nL ret nm tb) (t : Nat) {cI : ClassId} (ht : tys[t]? = some (cI, .long)) {a N0 : Nat} {f : Nat → Int64} (he : h a = some (.inl (cI, N0, .inr (.inl f)))) {i : Int32} (k : Nat) (hi : i = nI k) (hk : k < N0) (hN : N0 < 2 ^ 31) (d : decode cc pc = .ok (.laload, 1))
    (K : WA D H0 p l e R s m args below meth c nL Q ad h cells slots (pc + 1) lv (.long (f k) :: st)) : WA D H0 p l e R s m args below meth c nL Q ad h cells slots pc lv (.int i :: .ref a :: st) := fun H locs ls hH hS hl => by
  subst hi
  have K' := K H locs ls hH hS hl
  have e1 : (nI k).toNatClampNeg = k := nI_clamp (by omega)
  exact va_lald F.1 F.2.1 F.2.2.2.2.2.1.1 (hH.get he) 0 t (cA := cI) (n := N0) (f := f) rfl ht (vp_in_nI hk hN) d (by rw [e1]; exact K')
theorem cV_rf (ad : Nat → Nat) (r : Option Nat) : va_rf (r.map ad) = cV ad (va_rf r) := by cases r <;> rfl
theorem wa_aald (F : FX D tys H0 p l s m args meth c own cc nL ret nm tb) (t : Nat) {cI : ClassId} {C0 : String} (ht : tys[t]? = some (cI, .object C0)) {a N0 : Nat} {f : Nat → Option Nat} (he : h a = some (.inl (cI, N0, .inr (.inr (.inr (.inr f)))))) {i : Int32} (k : Nat) (hi : i = nI k) (hk : k < N0) (hN : N0 < 2 ^ 31) {v : Value} (hv : va_rf (f k) = v) (d : decode cc pc = .ok (.aaload, 1))
    (K : WA D H0 p l e R s m args below meth c nL Q ad h cells slots (pc + 1) lv (v :: st)) : WA D H0 p l e R s m args below meth c nL Q ad h cells slots pc lv (.int i :: .ref a :: st) := fun H locs ls hH hS hl => by
  subst hi; subst hv
  have K' : W p l e R s m args below meth c H locs cells slots Q (F0 m (pc + 1) ls (cV ad (va_rf (f k)) :: st.map (cV ad))) := K H locs ls hH hS hl
  have e1 : (nI k).toNatClampNeg = k := nI_clamp (by omega)
  exact va_aldq F.1 F.2.1 F.2.2.2.2.2.1.1 (hH.get he) 0 t (cA := cI) (C := C0) (n := N0) (f := fun j => (f j).map ad) rfl ht (vp_in_nI hk hN) d (by rw [e1, cV_rf]; exact K')
theorem wa_alen (F : FX D tys H0 p l s m args meth c own cc nL ret nm tb) (t : Nat) {cI : ClassId} {ty0 : FieldType} (ht : tys[t]? = some (cI, ty0)) {a : Nat} {x : vp_A} (he : h a = some (.inl (cI, x))) (d : decode cc pc = .ok (.arraylength, 1))
    (K : WA D H0 p l e R s m args below meth c nL Q ad h cells slots (pc + 1) lv (.int (nI x.1) :: st)) : WA D H0 p l e R s m args below meth c nL Q ad h cells slots pc lv (.ref a :: st) := fun H locs ls hH hS hl =>
  va_alen F.1 F.2.1 F.2.2.2.2.2.1.1 (hH.get he) 0 t (cA := cI) (x := cA ad x) rfl ht (v := nI x.1) rfl d (K H locs ls hH hS hl)
theorem wa_iast (F : FX D tys H0 p l s m args meth c own cc nL ret nm tb) (t : Nat) {cI : ClassId} (ht : tys[t]? = some (cI, .int)) {a N0 : Nat} {f : Nat → Int32} (he : h a = some (.inl (cI, N0, .inl f))) {i x : Int32} (k : Nat) (hi : i = nI k) (hk : k < N0) (hN : N0 < 2 ^ 31) (d : decode cc pc = .ok (.iastore, 1))
    {h' : Hp} (hh : va_up h a (some (.inl (cI, N0, .inl (upd f k x)))) = h')
    (K : WA D H0 p l e R s m args below meth c nL Q ad h' cells slots (pc + 1) lv st) : WA D H0 p l e R s m args below meth c nL Q ad h cells slots pc lv (.int x :: .int i :: .ref a :: st) := fun H locs ls hH hS hl => by
  subst hi; subst hh
  have e1 : (nI k).toNatClampNeg = k := nI_clamp (by omega)
  have hP := hH.get he 0 _ rfl
  refine W.iast F.1 F.2.1 hP ((F.2.2.2.2.2.1.1.2 t _ ht).1 N0 (fun j => .int (f j))) (fun q => by cases q) (by show ¬ (nI k < 0 ∨ (arrV _ _ _).slots.size ≤ _); rw [arrV_size]; exact vp_in_nI hk hN) rfl rfl d fun H1 e z oq => ?_
  refine K H1 _ ls (hH.put he z oq ?_) (hS.put z oq (hH.2.2.1 a _ he).1) hl
  show H1[ad a]? = some (vp_cell cI (N0, .inl (upd f k x)))
  rw [e, e1]
  show some ((vp_cell cI (N0, .inl f)).setSlot k (.int x)) = _
  rw [vp_cell_i, vp_cell_i, arrV_store]
  congr 2
  funext q
  by_cases hq : q = k
  · subst hq
    simp [updV, upd]
  · simp [updV, upd, hq]
theorem wa_zast (F : FX D tys H0 p l s m args meth c own cc nL ret nm tb) (t : Nat) {cI : ClassId} (ht : tys[t]? = some (cI, .boolean)) {a N0 : Nat} {f : Nat → Int32} (he : h a = some (.inl (cI, N0, .inl f))) {i x : Int32} (k : Nat) (hi : i = nI k) (hk : k < N0) (hN : N0 < 2 ^ 31) (hx : narrow .boolean (.int x) = .int x) (d : decode cc pc = .ok (.bastore, 1))
    {h' : Hp} (hh : va_up h a (some (.inl (cI, N0, .inl (upd f k x)))) = h')
    (K : WA D H0 p l e R s m args below meth c nL Q ad h' cells slots (pc + 1) lv st) : WA D H0 p l e R s m args below meth c nL Q ad h cells slots pc lv (.int x :: .int i :: .ref a :: st) := fun H locs ls hH hS hl => by
  subst hi; subst hh
  have e1 : (nI k).toNatClampNeg = k := nI_clamp (by omega)
  have hP := hH.get he 0 _ rfl
  refine W.zast F.1 F.2.1 hP ((F.2.2.2.2.2.1.1.2 t _ ht).1 N0 (fun j => .int (f j))) (fun q => by cases q) (by show ¬ (nI k < 0 ∨ (arrV _ _ _).slots.size ≤ _); rw [arrV_size]; exact vp_in_nI hk hN) rfl rfl d fun H1 e z oq => ?_
  refine K H1 _ ls (hH.put he z oq ?_) (hS.put z oq (hH.2.2.1 a _ he).1) hl
  show H1[ad a]? = some (vp_cell cI (N0, .inl (upd f k x)))
  rw [e, e1, hx]
  show some ((vp_cell cI (N0, .inl f)).setSlot k (.int x)) = _
  rw [vp_cell_i, vp_cell_i, arrV_store]
  congr 2
  funext q
  by_cases hq : q = k
  · subst hq
    simp [updV, upd]
  · simp [updV, upd, hq]
theorem wa_last (F : FX D tys H0 p l s m args meth c own cc nL ret nm tb) (t : Nat) {cI : ClassId} (ht : tys[t]? = some (cI, .long)) {a N0 : Nat} {f : Nat → Int64} (he : h a = some (.inl (cI, N0, .inr (.inl f)))) {i : Int32} {x : Int64} (k : Nat) (hi : i = nI k) (hk : k < N0) (hN : N0 < 2 ^ 31) (d : decode cc pc = .ok (.lastore, 1))
    {h' : Hp} (hh : va_up h a (some (.inl (cI, N0, .inr (.inl (vp_updL f k x))))) = h')
    (K : WA D H0 p l e R s m args below meth c nL Q ad h' cells slots (pc + 1) lv st) : WA D H0 p l e R s m args below meth c nL Q ad h cells slots pc lv (.long x :: .int i :: .ref a :: st) := fun H locs ls hH hS hl => by
  subst hi; subst hh
  have e1 : (nI k).toNatClampNeg = k := nI_clamp (by omega)
  have hP := hH.get he 0 _ rfl
  refine W.last F.1 F.2.1 hP ((F.2.2.2.2.2.1.1.2 t _ ht).1 N0 (fun j => .long (f j))) (fun q => by cases q) (by show ¬ (nI k < 0 ∨ (arrV _ _ _).slots.size ≤ _); rw [arrV_size]; exact vp_in_nI hk hN) rfl rfl d fun H1 e z oq => ?_
  refine K H1 _ ls (hH.put he z oq ?_) (hS.put z oq (hH.2.2.1 a _ he).1) hl
  show H1[ad a]? = some (vp_cell cI (N0, .inr (.inl (vp_updL f k x))))
  rw [e, e1]
  show some ((vp_cell cI (N0, .inr (.inl f))).setSlot k (.long x)) = _
  rw [vp_cell_l, vp_cell_l, arrV_store]
  congr 2
  funext q
  by_cases hq : q = k
  · subst hq
    simp [updV, vp_updL]
  · simp [updV, vp_updL, hq]
set_option maxHeartbeats 1000000 in
theorem wa_aast (F : FX D tys H0 p l s m args meth c own cc nL ret nm tb) (t : Nat) {cI : ClassId} (ht : tys[t]? = some (cI, .object C)) (y : LY ci C T N ty) {a N0 : Nat} {f : Nat → Option Nat} (he : h a = some (.inl (cI, N0, .inr (.inr (.inr (.inr f)))))) {i : Int32} {n : Nat} {vs : List Value} (hv : h n = some (.inr (ci, vs))) (k : Nat) (hi : i = nI k) (hk : k < N0) (hN : N0 < 2 ^ 31) (d : decode cc pc = .ok (.aastore, 1))
    {h' : Hp} (hh : va_up h a (some (.inl (cI, N0, .inr (.inr (.inr (.inr (va_up f k (some n)))))))) = h')
    (K : WA D H0 p l e R s m args below meth c nL Q ad h' cells slots (pc + 1) lv st) : WA D H0 p l e R s m args below meth c nL Q ad h cells slots pc lv (.ref n :: .int i :: .ref a :: st) := fun H locs ls hH hS hl => by
  subst hi; subst hh
  have e1 : (nI k).toNatClampNeg = k := nI_clamp (by omega)
  have hP := hH.get he 0 _ rfl
  have hin := vp_in_nI hk hN
  have h0 : ¬ nI k < 0 := fun q => hin (Or.inl q)
  have hq : ∃ r : vw_C, vwCl[ci]? = some r ∧ t_OB (ad n) (D.1 ci) r.2.2 (D.2 ci) H (vp_V (vs.map (cV ad))) := (hH.2.2.1 n _ hv).2
  obtain ⟨r', hr', cellV, g1, g2, g3, -⟩ := hq
  have hcls := (F.2.2.2.2.2.1.1.1 ci _ y.1).2
  obtain ⟨kA, comp, k1, k2, k3, -⟩ := (F.2.2.2.2.2.1.1.2 t _ ht).2
  have hcomp : comp = D.1 ci := Option.some.inj (k3.symm.trans hcls.1)
  subst hcomp
  obtain ⟨kC, hkC, -⟩ := hcls.2
  refine W.aast F.1 F.2.1 hP (fun q h => by cases h) (fun h => by cases h) k1 k2 rfl hkC ⟨h0, by show _ < (arrV _ _ _).slots.size; rw [arrV_size, e1]; exact hk⟩ g1 (fun q h => by rw [g3] at h; cases h) (by rw [g2]; exact hkC) (by rw [g2]; exact va_assign hcls) rfl rfl d fun H1 e z oq => ?_
  refine K H1 _ ls (hH.put he z oq ?_) (hS.put z oq (hH.2.2.1 a _ he).1) hl
  show H1[ad a]? = some (vp_cell cI (N0, .inr (.inr (.inr (.inr (fun j => (va_up f k (some n) j).map ad))))))
  rw [e, e1]
  show some ((vp_cell cI (N0, .inr (.inr (.inr (.inr (fun j => (f j).map ad)))))).setSlot k (.ref (ad n))) = _
  rw [vp_cell_q, vp_cell_q, arrV_store]
  congr 2
  funext q
  by_cases hq : q = k
  · subst hq
    simp [updV, va_up, va_rf]
  · simp [updV, va_up, hq]
/-! new cells -/
theorem cV_new {ad : Nat → Nat} {n q : Nat} {v : Value} (hv : v ≠ .ref n) : cV (va_up ad n q) v = cV ad v := by
  cases v with
  | ref x =>
    have hx : x ≠ n := fun z => hv (by rw [z])
    show Value.ref (va_up ad n q x) = Value.ref (ad x)
    unfold va_up
    rw [if_neg hx]
  | _ => rfl
theorem st_new {ad : Nat → Nat} {n q : Nat} {st : List Value} (hs : ∀ v ∈ st, v ≠ .ref n) : st.map (cV (va_up ad n q)) = st.map (cV ad) := List.map_congr_left fun v hv => cV_new (hs v hv)
theorem lv_new {ad : Nat → Nat} {n q : Nat} {lv : List (Nat × Value)} (hs : ∀ v ∈ lv, v.2 ≠ .ref n) : lv.map (cL (va_up ad n q)) = lv.map (cL ad) := List.map_congr_left fun v hv => by unfold cL; rw [cV_new (hs v hv)]
theorem wa_new (F : FX D tys H0 p l s m args meth c own cc nL ret nm tb) (y : LY ci C T N ty) (n : Nat) {index : Nat} (w1 : Cond.classLink own index C ∈ lw_tbl) (w2 : Cond.instantiable C N ∈ lw_tbl) (w3 : Cond.initialized C ∈ lw_tbl) (hn : h n = none) (hr : noRef h n) {fs : List Value} (hfs : ∀ j, j < N → defaultValue (ty j) = vp_V fs j) (hfd : ∀ ad', fs.map (cV ad') = fs) (hc : cells + 1 ≤ R.cells) (hs : slots + N ≤ R.slots)
    (hlv : ∀ v ∈ lv, v.2 ≠ .ref n) (hst : ∀ v ∈ st, v ≠ .ref n) (d : decode cc pc = .ok (.new index, 3))
    {h' : Hp} (hh : va_up h n (some (.inr (ci, fs))) = h')
    (K : ∀ q, WA D H0 p l e R s m args below meth c nL Q (va_up ad n q) h' (cells + 1) (slots + N) (pc + 3) lv (.ref n :: st)) : WA D H0 p l e R s m args below meth c nL Q ad h cells slots pc lv st := fun H locs ls hH hS hl => by
  subst hh
  have hKn := F.2.2.2.2.2.1.1.1 ci _ y.1
  refine W.newcK F.1 F.2.1 F.2.2.2.1 (F.2.2.2.2.1 _ w1 rfl) (F.2.2.2.2.1 _ w2 rfl) (F.2.2.2.2.1 _ w3 rfl) rfl d hc hs hKn.2.1 rfl fun H1 kC hkC e1 z1 o1 => ?_
  have K' := K H.size H1 locs ls (hH.new hn hr z1 o1 ?_) ⟨Nat.le_trans hS.1 (by omega), fun x h1 h2 => (o1 x (Nat.lt_of_lt_of_le h1 hS.1)).trans (hS.2.1 x h1 h2), hS.2.2⟩ (by rw [lv_new hlv]; exact hl)
  · have e2 : (Value.ref n :: st).map (cV (va_up ad n H.size)) = .ref H.size :: st.map (cV ad) := by
      rw [List.map_cons, st_new hst]
      show Value.ref (va_up ad n H.size n) :: _ = _
      unfold va_up
      rw [if_pos rfl]
    rw [e2] at K'
    exact K'
  · refine ⟨_, y.1, ?_⟩
    show t_OB H.size (D.1 ci) N (D.2 ci) H1 (vp_V (fs.map (cV (va_up ad n H.size))))
    rw [hfd]
    exact (u_born ty (F.lay y) (fun _ hw => hw) hKn hkC e1 y.2.2.1).to hfs
theorem wa_newa (F : FX D tys H0 p l s m args meth c own cc nL ret nm tb) (t : Nat) {cI : ClassId} {ty0 : FieldType} (ht : tys[t]? = some (cI, ty0)) (atype : ArrayType) (hty : newarray.typeOf atype = ty0) (hpr : va_RA s cI ty0 = (s.vm.findClass ("[" ++ ty0.toString) = some cI)) (n : Nat) (w1 : Cond.arrayClass ty0 ∈ lw_tbl) (hn : h n = none) (hr : noRef h n) {i : Int32} {N0 : Nat} {a0 : vp_A} (ha : ∀ cX : ClassId, vp_cell cX a0 = arrV cX N0 (fun _ => defaultValue ty0)) (had : ∀ ad', cA ad' a0 = a0) (hi : i = nI N0) (hN : N0 * componentBytes ty0 ≤ 536870912) (hN2 : N0 < 2 ^ 31) (hc : cells + 1 ≤ R.cells) (hs : slots + N0 ≤ R.slots)
    (hlv : ∀ v ∈ lv, v.2 ≠ .ref n) (hst : ∀ v ∈ st, v ≠ .ref n) (d : decode cc pc = .ok (.newarray atype, 2))
    {h' : Hp} (hh : va_up h n (some (.inl (cI, a0))) = h')
    (K : ∀ q, WA D H0 p l e R s m args below meth c nL Q (va_up ad n q) h' (cells + 1) (slots + N0) (pc + 2) lv (.ref n :: st)) : WA D H0 p l e R s m args below meth c nL Q ad h cells slots pc lv (.int i :: st) := fun H locs ls hH hS hl => by
  subst hh; subst hi; subst hty
  refine va_newaK F.1 F.2.1 (F.2.2.2.2.1 _ w1 rfl) rfl d rfl (nI_pos hN2) (nI_clamp hN2) hN hc hs rfl fun H1 cX e1 z1 o1 hAr hNm => ?_
  have hcx : cX = cI := by
    have := (F.2.2.2.2.2.1.1.2 t _ ht).2
    rw [hpr] at this
    exact Option.some.inj (hNm.symm.trans this)
  subst hcx
  have K' := K H.size H1 locs ls (hH.new hn hr z1 o1 ?_) ⟨Nat.le_trans hS.1 (by omega), fun x h1 h2 => (o1 x (Nat.lt_of_lt_of_le h1 hS.1)).trans (hS.2.1 x h1 h2), hS.2.2⟩ (by rw [lv_new hlv]; exact hl)
  · have e2 : (Value.ref n :: st).map (cV (va_up ad n H.size)) = .ref H.size :: st.map (cV ad) := by
      rw [List.map_cons, st_new hst]
      show Value.ref (va_up ad n H.size n) :: _ = _
      unfold va_up
      rw [if_pos rfl]
    rw [e2] at K'
    exact K'
  · show H1[H.size]? = some (vp_cell cX (cA (va_up ad n H.size) a0))
    rw [had, ha]
    exact e1
theorem wa_newq (F : FX D tys H0 p l s m args meth c own cc nL ret nm tb) (t : Nat) {cI : ClassId} {C0 : String} (ht : tys[t]? = some (cI, .object C0)) (n : Nat) {index : Nat} (w1 : Cond.classLink own index C0 ∈ lw_tbl) (w2 : Cond.arrayOver (.object C0) ∈ lw_tbl) (hn : h n = none) (hr : noRef h n) {i : Int32} {N0 : Nat} (hi : i = nI N0) (hN : N0 * 4 ≤ 536870912) (hN2 : N0 < 2 ^ 31) (hc : cells + 1 ≤ R.cells) (hs : slots + N0 ≤ R.slots)
    (hlv : ∀ v ∈ lv, v.2 ≠ .ref n) (hst : ∀ v ∈ st, v ≠ .ref n) (d : decode cc pc = .ok (.anewarray index, 3))
    {h' : Hp} (hh : va_up h n (some (.inl (cI, N0, .inr (.inr (.inr (.inr (fun _ => none))))))) = h')
    (K : ∀ q, WA D H0 p l e R s m args below meth c nL Q (va_up ad n q) h' (cells + 1) (slots + N0) (pc + 3) lv (.ref n :: st)) : WA D H0 p l e R s m args below meth c nL Q ad h cells slots pc lv (.int i :: st) := fun H locs ls hH hS hl => by
  subst hh; subst hi
  have hcl : (nI N0).toNatClampNeg = N0 := nI_clamp hN2
  refine W.anew F.1 F.2.1 F.2.2.2.1 (F.2.2.2.2.1 _ w1 rfl) (va_AO.use (F.2.2.2.2.2.1.2.2.2.1 _ w2)) rfl d rfl (nI_pos hN2) (by rw [hcl]; exact hN) hc (by rw [hcl]; exact hs) fun cX kA comp f1 f2 f3 f4 => ?_
  rw [hcl]
  generalize hH1 : H.push ({ cls := cX, slots := Array.replicate N0 .null, vm := .none } : Cell) = H1
  have z1 : H1.size = H.size + 1 := by rw [← hH1, Array.size_push]
  have e1 : H1[H.size]? = some (arrV cX N0 (fun _ => .null)) := by rw [← hH1, Array.getElem?_push_size, ← arrV_new]
  have o1 : ∀ q : Nat, q < H.size → H1[q]? = H[q]? := fun q hq => by rw [← hH1, Array.getElem?_push, if_neg (Nat.ne_of_lt hq)]
  have hcx : cX = cI := by
    obtain ⟨_, _, _, _, _, h9⟩ := (F.2.2.2.2.2.1.1.2 t _ ht).2
    exact Option.some.inj (f1.symm.trans h9)
  subst hcx
  have K' := K H.size H1 locs ls (hH.new hn hr z1 o1 ?_) ⟨Nat.le_trans hS.1 (by omega), fun x h1 h2 => (o1 x (Nat.lt_of_lt_of_le h1 hS.1)).trans (hS.2.1 x h1 h2), hS.2.2⟩ (by rw [lv_new hlv]; exact hl)
  · have e2 : (Value.ref n :: st).map (cV (va_up ad n H.size)) = .ref H.size :: st.map (cV ad) := by
      rw [List.map_cons, st_new hst]
      show Value.ref (va_up ad n H.size n) :: _ = _
      unfold va_up
      rw [if_pos rfl]
    rw [e2] at K'
    exact K'
  · show H1[H.size]? = some (vp_cell cX (N0, .inr (.inr (.inr (.inr (fun _ => none))))))
    rw [vp_cell_q]
    exact e1
end HEAPR
end
section
/-! contracts over the abstract heap -/
def GW : List Cond := lw_tbl.filter goodWord
def PC0 (D : va_G) (tys : List (ClassId × FieldType)) (H0 : Heap) (ad : Nat → Nat) (h : Hp) (As : List Value) : Array Value → State → Prop := fun v U => v = (As.map (cV ad)).toArray ∧ ST D tys H0 U ∧ HP D H0 ad h U.heap
def QC0 (D : va_G) (H0 : Heap) (post : Option Value → (Nat → Nat) → Hp → Prop) : Array Value → State → Outcome → State → Prop := fun _ st o t => (∃ (v : Option Value) (ad' : Nat → Nat) (h' : Hp), o = .returned (Option.map (cV ad') v) ∧ post v ad' h' ∧ HP D H0 ad' h' t.heap) ∧ va_F (hA0 H0) st t
def XC0 (D : va_G) (H0 : Heap) (px : String → Prop) (ad : Nat → Nat) (h : Hp) : String → State → State → Prop := fun E st t => px E ∧ HP D H0 ad h t.heap ∧ va_F (hA0 H0) st t
/-- method y returns as post says, or throws one of px and leaves the abstract heap as it was -/
def CC (l : Launch) (D : va_G) (tys : List (ClassId × FieldType)) (H0 : Heap) (y : MethodName) (cc : ByteArray) (nL : Nat) (ret : Option FieldType) (k mc ms : Nat) (As : List Value) (ad : Nat → Nat) (h : Hp) (post : Option Value → (Nat → Nat) → Hp → Prop) (px : String → Prop) : Prop :=
  vx_Met l y (Cond.code y cc nL ret :: GW) (RM k mc ms) (PC0 D tys H0 ad h As) (QC0 D H0 post) (XC0 D H0 px ad h) mc ms (hA0 H0)
def CCH (l : Launch) (D : va_G) (tys : List (ClassId × FieldType)) (H0 : Heap) (y : MethodName) (cc : ByteArray) (nL : Nat) (ret : Option FieldType) (hh : List (Nat × Nat × Nat × Nat)) (k mc ms : Nat) (As : List Value) (ad : Nat → Nat) (h : Hp) (post : Option Value → (Nat → Nat) → Hp → Prop) (px : String → Prop) : Prop :=
  vx_Met l y (Cond.codeWith y cc nL ret hh :: GW) (RM k mc ms) (PC0 D tys H0 ad h As) (QC0 D H0 post) (XC0 D H0 px ad h) mc ms (hA0 H0)
/-- an answer r, the new abstract heap h1 -/
def PR (ad : Nat → Nat) (r : Option Value) (h1 : Hp) : Option Value → (Nat → Nat) → Hp → Prop := fun v ad' h' => r = v ∧ ad = ad' ∧ h1 = h'
/-- the same, new cells may have come -/
def PN (ad : Nat → Nat) (h : Hp) (r : Option Value) (h1 : Hp) : Option Value → (Nat → Nat) → Hp → Prop := fun v ad' h' => r = v ∧ (∀ n, h n ≠ none → ad' n = ad n) ∧ h1 = h'
theorem PC0_blind (D : va_G) (tys : List (ClassId × FieldType)) (H0 : Heap) (ad : Nat → Nat) (h : Hp) (As : List Value) : FrameBlind (PC0 D tys H0 ad h As) := fun a U g mk q => ⟨q.1, q.2.1.calling, q.2.2⟩
theorem lgsl_len (ad : Nat → Nat) (vs : List Value) : (lg_sl (vs.map (cV ad))).length = (lg_sl vs).length := by
  induction vs with
  | nil => rfl
  | cons v t ih =>
    simp only [lg_sl, List.map_cons, List.flatMap_cons, List.length_append, cat_cV] at ih ⊢
    rw [ih]
    split <;> rfl
theorem lvargs_map (ad : Nat → Nat) (vs : List Value) : ∀ i, lv_args i (vs.map (cV ad)) = (lv_args i vs).map (cL ad) := by
  induction vs with
  | nil => intro i; rfl
  | cons v t ih =>
    intro i
    simp only [List.map_cons, lv_args, cat_cV, ih]
    rfl
section CALLS
variable {D : va_G} {tys : List (ClassId × FieldType)} {H0 : Heap} {p : Program} {l : Launch} {e : Env} {R : Room} {s : State} {m : MethodId} {args : Array Value} {below : List Frame} {meth : Method} {c : Code} {own : String} {cc : ByteArray} {nL : Nat} {ret : Option FieldType} {nm : String} {tb : List ExceptionTableEntry} {Q : State → Prop} {ad : Nat → Nat} {h : Hp} {cells slots pc : Nat} {lv lv' : List (Nat × Value)} {st : List Value}
theorem cc_intro {y : MethodName} {k mc ms : Nat} {As : List Value} {post : Option Value → (Nat → Nat) → Hp → Prop} {px : String → Prop} (hst : l.stackTraces = false) (hy : plainName y.cls = true) (hAs : (lg_sl As).length ≤ nL)
    (body : ∀ p e s m args below meth c, FX D tys H0 p l s m args meth c y.cls cc nL ret y.name [] → WA D H0 p l e (RM k mc ms) s m args below meth c nL (vx_MQ below (QC0 D H0 post) (XC0 D H0 px ad h) args s mc ms (hA0 H0)) ad h 0 0 0 (lv_args 0 As) []) : CC l D tys H0 y cc nL ret k mc ms As ad h post px := by
  refine vx_ofW hy rfl ?_
  intro p e s m args below meth c s₁ B hml htb hP
  obtain ⟨rfl, hST, hHP⟩ := hP
  have hts := atoms_spec (ws := Cond.code y cc nL ret :: GW) B.pre
  have F : FX D tys H0 p l s m (As.map (cV ad)).toArray meth c y.cls cc nL ret y.name [] := ⟨B.exec, B.bytes, hml, findClass_of_methodNamed B.named, fun w hw hg => hts w (List.mem_cons_of_mem _ (List.mem_filter.mpr ⟨hw, hg⟩)), hST, B.notSynchronized, B.returns, hst, (name_of_methodNamed B.named B.method).1, List.eq_nil_iff_forall_not_mem.mpr htb, hHP.1, hHP.2.1⟩
  rw [lg_entry_eq]
  refine body p e s m _ below meth c F s.heap [] _ hHP va_S.rf ?_
  rw [← lvargs_map]
  exact lv_entry (As.map (cV ad)) (by rw [lgsl_len]; exact hAs)
theorem cc_introH {y : MethodName} {hh : List (Nat × Nat × Nat × Nat)} {k mc ms : Nat} {As : List Value} {post : Option Value → (Nat → Nat) → Hp → Prop} {px : String → Prop} (hst : l.stackTraces = false) (hy : plainName y.cls = true) (hAs : (lg_sl As).length ≤ nL)
    (body : ∀ p e s m args below meth c, FX D tys H0 p l s m args meth c y.cls cc nL ret y.name (tableOf hh) → WA D H0 p l e (RM k mc ms) s m args below meth c nL (vx_MQ below (QC0 D H0 post) (XC0 D H0 px ad h) args s mc ms (hA0 H0)) ad h 0 0 0 (lv_args 0 As) []) : CCH l D tys H0 y cc nL ret hh k mc ms As ad h post px := by
  refine vx_ofWH hy rfl ?_
  intro p e s m args below meth c s₁ B hml hP
  obtain ⟨rfl, hST, hHP⟩ := hP
  have hts := atoms_spec (ws := Cond.codeWith y cc nL ret hh :: GW) B.pre
  have F : FX D tys H0 p l s m (As.map (cV ad)).toArray meth c y.cls cc nL ret y.name (tableOf hh) := ⟨B.exec, B.bytes, hml, findClass_of_methodNamed B.named, fun w hw hg => hts w (List.mem_cons_of_mem _ (List.mem_filter.mpr ⟨hw, hg⟩)), hST, B.notSynchronized, B.returns, hst, (name_of_methodNamed B.named B.method).1, vx_table (x := y) B (hts _ List.mem_cons_self), hHP.1, hHP.2.1⟩
  rw [lg_entry_eq]
  refine body p e s m _ below meth c F s.heap [] _ hHP va_S.rf ?_
  rw [← lvargs_map]
  exact lv_entry (As.map (cV ad)) (by rw [lgsl_len]; exact hAs)
/-! ends -/
section ENDS
variable {mc ms : Nat} {post : Option Value → (Nat → Nat) → Hp → Prop} {px : String → Prop} {ad0 : Nat → Nat} {h0 : Hp}
theorem wa_iret {v : Int32} {rt : FieldType} (F : FX D tys H0 p l s m args meth c own cc nL (some rt) nm tb) (hn : narrow rt (.int v) = .int v) (hc : cells ≤ mc) (hs : slots ≤ ms) (d : decode cc pc = .ok (.ireturn, 1)) (hp : post (some (.int v)) ad h) :
    WA D H0 p l e R s m args below meth c nL (vx_MQ below (QC0 D H0 post) (XC0 D H0 px ad0 h0) args s mc ms (hA0 H0)) ad h cells slots pc lv [.int v] := fun H locs ls hH hS hl =>
  vx_ret (W.widen hc hs (W.zret F.1 F.2.1 F.2.2.2.2.2.2.2.1 hn (fun t ht hW => ⟨⟨some (.int v), ad, h, rfl, hp, by rw [ht]; exact hH⟩, hS.F ht⟩) hS.2.2 d (hlocks := F.2.2.2.2.2.2.1)))
theorem wa_vret (F : FX D tys H0 p l s m args meth c own cc nL none nm tb) (hc : cells ≤ mc) (hs : slots ≤ ms) (d : decode cc pc = .ok (.return_, 1)) (hp : post none ad h) :
    WA D H0 p l e R s m args below meth c nL (vx_MQ below (QC0 D H0 post) (XC0 D H0 px ad0 h0) args s mc ms (hA0 H0)) ad h cells slots pc lv [] := fun H locs ls hH hS hl =>
  vx_ret (W.widen hc hs (W.vret F.1 F.2.1 F.2.2.2.2.2.2.2.1 (fun t ht hW => ⟨⟨none, ad, h, rfl, hp, by rw [ht]; exact hH⟩, hS.F ht⟩) hS.2.2 d (hlocks := F.2.2.2.2.2.2.1)))
theorem wa_aret {n : Nat} {C0 : String} (F : FX D tys H0 p l s m args meth c own cc nL (some (.object C0)) nm tb) (hc : cells ≤ mc) (hs : slots ≤ ms) (d : decode cc pc = .ok (.areturn, 1)) (hp : post (some (.ref n)) ad h) :
    WA D H0 p l e R s m args below meth c nL (vx_MQ below (QC0 D H0 post) (XC0 D H0 px ad0 h0) args s mc ms (hA0 H0)) ad h cells slots pc lv [.ref n] := fun H locs ls hH hS hl =>
  vx_ret (W.widen hc hs (W.aret F.1 F.2.1 F.2.2.2.2.2.2.2.1 (Or.inl ⟨_, rfl⟩) (Or.inr ⟨ad n, rfl⟩) (fun t ht hW => ⟨⟨some (.ref n), ad, h, rfl, hp, by rw [ht]; exact hH⟩, hS.F ht⟩) hS.2.2 d (hlocks := F.2.2.2.2.2.2.1)))
/-- a throw that this method doesn't catch -/
theorem wx_out {E : String} (F : FX D tys H0 p l s m args meth c own cc nL ret nm []) (hc : cells ≤ mc) (hs : slots ≤ ms) (hp : px E) (hh : h = h0) (ha : ad = ad0) :
    WX D H0 p l e R s m args below meth c nL (vx_MQ below (QC0 D H0 post) (XC0 D H0 px ad0 h0) args s mc ms (hA0 H0)) ad h cells slots pc lv E := by
  subst hh; subst ha
  intro H locs ls rest q ce hH hS hl hce hcv hcl
  exact vx_out (fun x hx => by rw [F.2.2.2.2.2.2.2.2.2.2.1] at hx; cases hx) F.2.2.2.2.2.2.1 hce hcv hcl (fun t ht hW => ⟨hp, by rw [ht]; exact hH, hS.F ht⟩) hS.2.2 hc hs
theorem wa_throwS {cls text : String} {ik is ic : Nat} (F : FX D tys H0 p l s m args meth c own cc nL ret nm []) (hcls : Bundle.fit cls = true) (w1 : Cond.classLink own ik cls ∈ lw_tbl) (w2 : Cond.initialized cls ∈ lw_tbl) (w3 : Cond.stringRef own is text ∈ lw_tbl)
    (hat : ∀ w ∈ vx_atS own ic cls ["java/lang/RuntimeException", "java/lang/Exception"], w ∈ lw_tbl ∧ (goodWord w || dcW w) = true)
    (hgood : ∀ w ∈ Cond.classLink own ik cls :: Cond.initialized cls :: vx_atS own ic cls ["java/lang/RuntimeException", "java/lang/Exception"], vx_ot w = true)
    (d0 : decode cc pc = .ok (.new ik, 3)) (d3 : decode cc (pc + 3) = .ok (.dup, 1)) (d4 : decode cc (pc + 4) = .ok (.ldc is, 2)) (d6 : decode cc (pc + 6) = .ok (.invokespecial ic, 3)) (d9 : decode cc (pc + 9) = .ok (.athrow, 1))
    (hRf : 5 < R.frames) (hRl : 8 + 82 ≤ R.locals) (hcat : (st.map fun v => v.category).sum ≤ 8) (hRc : cells + 1 ≤ R.cells) (hRs : slots + 6 ≤ R.slots) (hc : cells + 1 ≤ mc) (hs : slots + 6 ≤ ms) (hp : px cls) (hh : h = h0) (ha : ad = ad0) :
    WA D H0 p l e R s m args below meth c nL (vx_MQ below (QC0 D H0 post) (XC0 D H0 px ad0 h0) args s mc ms (hA0 H0)) ad h cells slots pc lv st := by
  subst hh; subst ha
  intro H locs ls hH hS hl
  obtain ⟨sa, hsa⟩ := F.2.2.2.2.2.1.2.2.1 _ _ _ w3
  have hkeep : ∀ q : Nat, q < H0.size → ¬ hA0 H0 q → s.heap[q]? = H0[q]? := fun q hq _ => F.2.2.2.2.2.2.2.2.2.2.2.2 q hq
  refine vx_throwS F.1 F.2.1 F.2.2.2.2.2.2.2.2.1 F.2.2.2.1 hcls (names := ["java/lang/RuntimeException", "java/lang/Exception"]) (by decide +kernel) (F.2.2.2.2.1 _ w1 rfl) (F.2.2.2.2.1 _ w2 rfl) hsa (fun w hw => ?_) hgood (F.2.2.2.2.2.1.2.2.2.2.1.kept hkeep) (F.2.2.2.2.2.1.2.2.2.2.2.1.kept hkeep) hS (hl.1.trans F.2.2.1.symm) d0 d3 d4 d6 d9 (fun x hx => by rw [F.2.2.2.2.2.2.2.2.2.2.1] at hx; cases hx) hRf ?_ hRc hRs F.2.2.2.2.2.2.1 (fun t hal hz hq => ⟨hp, hH.grow hz hq, ?_⟩) hS.2.2 hc hs
  · obtain ⟨h1, h2⟩ := hat w hw
    by_cases g : goodWord w = true
    · exact F.2.2.2.2.1 w h1 g
    · have g2 : dcW w = true := by simpa [g] using h2
      exact va_Nw.use (dcW_on g2) (F.2.2.2.2.2.1.2.2.2.2.2.2.1 w h1 g2)
  · have e1 : ((st.map (cV ad)).map fun v => v.category) = st.map fun v => v.category := by
      rw [List.map_map]; exact List.map_congr_left fun v _ => cat_cV ad v
    rw [e1]
    simp only [List.length_cons, List.length_nil]
    omega
  · exact ⟨Nat.le_trans hS.1 hz, fun q h1 h2 => (hq q (Nat.lt_of_lt_of_le h1 hS.1)).trans (hS.2.1 q h1 h2)⟩
theorem wa_throwSW {cls text : String} {ik is ic : Nat} (F : FX D tys H0 p l s m args meth c own cc nL ret nm []) (hcls : Bundle.fit cls = true) (w1 : Cond.classLink own ik cls ∈ lw_tbl) (w2 : Cond.initialized cls ∈ lw_tbl) (w3 : Cond.stringRef own is text ∈ lw_tbl)
    (hat : ∀ w ∈ vx_atS own ic cls ["java/lang/RuntimeException", "java/lang/Exception"], w ∈ lw_tbl ∧ (goodWord w || dcW w) = true)
    (hgood : ∀ w ∈ Cond.classLink own ik cls :: Cond.initialized cls :: vx_atS own ic cls ["java/lang/RuntimeException", "java/lang/Exception"], vx_ot w = true)
    (d0 : decode cc pc = .ok (.new ik, 3)) (d3 : decode cc (pc + 3) = .ok (.dup, 1)) (d4 : decode cc (pc + 4) = .ok (.ldc_w is, 3)) (d7 : decode cc (pc + 7) = .ok (.invokespecial ic, 3)) (d10 : decode cc (pc + 10) = .ok (.athrow, 1))
    (hRf : 5 < R.frames) (hRl : 8 + 82 ≤ R.locals) (hcat : (st.map fun v => v.category).sum ≤ 8) (hRc : cells + 1 ≤ R.cells) (hRs : slots + 6 ≤ R.slots) (hc : cells + 1 ≤ mc) (hs : slots + 6 ≤ ms) (hp : px cls) (hh : h = h0) (ha : ad = ad0) :
    WA D H0 p l e R s m args below meth c nL (vx_MQ below (QC0 D H0 post) (XC0 D H0 px ad0 h0) args s mc ms (hA0 H0)) ad h cells slots pc lv st := by
  subst hh; subst ha
  intro H locs ls hH hS hl
  obtain ⟨sa, hsa⟩ := F.2.2.2.2.2.1.2.2.1 _ _ _ w3
  have hkeep : ∀ q : Nat, q < H0.size → ¬ hA0 H0 q → s.heap[q]? = H0[q]? := fun q hq _ => F.2.2.2.2.2.2.2.2.2.2.2.2 q hq
  refine vx_throwSW F.1 F.2.1 F.2.2.2.2.2.2.2.2.1 F.2.2.2.1 hcls (names := ["java/lang/RuntimeException", "java/lang/Exception"]) (by decide +kernel) (F.2.2.2.2.1 _ w1 rfl) (F.2.2.2.2.1 _ w2 rfl) hsa (fun w hw => ?_) hgood (F.2.2.2.2.2.1.2.2.2.2.1.kept hkeep) (F.2.2.2.2.2.1.2.2.2.2.2.1.kept hkeep) hS (hl.1.trans F.2.2.1.symm) d0 d3 d4 d7 d10 (fun x hx => by rw [F.2.2.2.2.2.2.2.2.2.2.1] at hx; cases hx) hRf ?_ hRc hRs F.2.2.2.2.2.2.1 (fun t hal hz hq => ⟨hp, hH.grow hz hq, ?_⟩) hS.2.2 hc hs
  · obtain ⟨h1, h2⟩ := hat w hw
    by_cases g : goodWord w = true
    · exact F.2.2.2.2.1 w h1 g
    · have g2 : dcW w = true := by simpa [g] using h2
      exact va_Nw.use (dcW_on g2) (F.2.2.2.2.2.1.2.2.2.2.2.2.1 w h1 g2)
  · have e1 : ((st.map (cV ad)).map fun v => v.category) = st.map fun v => v.category := by
      rw [List.map_map]; exact List.map_congr_left fun v _ => cat_cV ad v
    rw [e1]
    simp only [List.length_cons, List.length_nil]
    omega
  · exact ⟨Nat.le_trans hS.1 hz, fun q h1 h2 => (hq q (Nat.lt_of_lt_of_le h1 hS.1)).trans (hS.2.1 q h1 h2)⟩
end ENDS
/-! calls -/
theorem cat_st (ad : Nat → Nat) (st : List Value) : ((st.map (cV ad)).map fun v => v.category) = st.map fun v => v.category := by
  rw [List.map_map]; exact List.map_congr_left fun v _ => cat_cV ad v
theorem wa_of_run {mc ms : Nat} {post : Option Value → (Nat → Nat) → Hp → Prop} {px : String → Prop} {rest : List Value} {a : Array Value}
    (hr : ∀ (H : Heap) (locs : List Loc) (ls : Array Slot), HP D H0 ad h H → va_S (hA0 H0) s.heap H locs → lv_has ls nL (lv.map (cL ad)) → vx_Run p l e R s m args below meth c H locs cells slots mc ms (F0 m pc ls (st.map (cV ad))) (rest.map (cV ad)) (QC0 D H0 post a) (XC0 D H0 px ad h) (hA0 H0))
    (hag : ∀ v ad' h', post v ad' h' → lv.map (cL ad') = lv.map (cL ad) ∧ rest.map (cV ad') = rest.map (cV ad))
    (kx : ∀ E, px E → WX D H0 p l e R s m args below meth c nL Q ad h (cells + mc) (slots + ms) pc lv E)
    (kk : ∀ v ad' h', post v ad' h' → WA D H0 p l e R s m args below meth c nL Q ad' h' (cells + mc) (slots + ms) (pc + 3) lv (v.toList ++ rest)) :
    WA D H0 p l e R s m args below meth c nL Q ad h cells slots pc lv st := by
  intro H locs ls hH hS hl T hT X
  rcases hr H locs ls hH hS hl T hT X with ⟨v, st₀, t, T', L, h0, X', hL, e1, e2, ⟨⟨v', ad', h', hv, hpost, hHP⟩, hF⟩, stp⟩ | ⟨q, st₀, t, T', L, E, ce, h0, X', hL, e1, e2, ⟨hpx, hHP, hF⟩, hce, hcv, hcl, stp⟩
  · obtain ⟨-, -, k3⟩ := vx_keep h0 e1 hS (fun _ _ z => z) (fun _ z => z) hL hF
    have hv2 : v = Option.map (cV ad') v' := by injection hv
    obtain ⟨g1, g2⟩ := hag v' ad' h' hpost
    obtain ⟨t2, a1, b1⟩ := kk v' ad' h' hpost T'.heap (locs ++ L) ls (by rw [e1]; exact hHP) k3 (by rw [g1]; exact hl) T' rfl X'
    have e3 : (v'.toList ++ rest).map (cV ad') = v.toList ++ rest.map (cV ad) := by
      rw [List.map_append, g2, hv2]
      cases v' <;> rfl
    rw [e3] at a1
    exact ⟨t2, stp t2 a1, b1⟩
  · obtain ⟨-, -, k3⟩ := vx_keep h0 e1 hS (fun _ _ z => z) (fun _ z => z) hL hF
    obtain ⟨t2, a1, b1⟩ := kx E hpx T'.heap (locs ++ L) ls (rest.map (cV ad)) q ce (by rw [e1]; exact hHP) k3 hl (by rw [e1]; exact hce) hcv hcl T' rfl X'
    exact ⟨t2, stp.trans a1, b1⟩
theorem PR_ag {r : Option Value} {h1 : Hp} {lv : List (Nat × Value)} {rest : List Value} : ∀ v ad' h', PR ad r h1 v ad' h' → lv.map (cL ad') = lv.map (cL ad) ∧ rest.map (cV ad') = rest.map (cV ad) := by
  rintro v ad' h' ⟨-, rfl, -⟩
  exact ⟨rfl, rfl⟩
theorem PN_ag {r : Option Value} {h1 : Hp} {lv : List (Nat × Value)} {rest : List Value} (hlv : ∀ x ∈ lv, ∀ n, x.2 = .ref n → h n ≠ none) (hrs : ∀ x ∈ rest, ∀ n, x = .ref n → h n ≠ none) : ∀ v ad' h', PN ad h r h1 v ad' h' → lv.map (cL ad') = lv.map (cL ad) ∧ rest.map (cV ad') = rest.map (cV ad) := by
  rintro v ad' h' ⟨-, ha, -⟩
  have key : ∀ v : Value, (∀ n, v = .ref n → h n ≠ none) → cV ad' v = cV ad v := by
    intro v hv
    cases v with
    | ref n => show Value.ref (ad' n) = Value.ref (ad n); rw [ha n (hv n rfl)]
    | _ => rfl
  exact ⟨List.map_congr_left fun x hx => by unfold cL; rw [key _ (hlv x hx)], List.map_congr_left fun x hx => key _ (hrs x hx)⟩
def MWV (y : MethodName) (bytes : ByteArray) (maxL : Nat) (rt : Option FieldType) (n : Nat) : Prop := Cond.instanceMethod y ∈ lw_tbl ∧ Cond.selects y.cls y y ∈ lw_tbl ∧ Cond.code y bytes maxL rt ∈ lw_tbl ∧ Cond.initialized y.cls ∈ lw_tbl ∧ (y.cls ≠ "java/lang/invoke/MethodHandle" ∧ y.cls ≠ "java/lang/invoke/VarHandle" ∧ (parseMethodDescriptor y.desc).map (fun d => d.parameters.length) = some n)
def MWI (y : MethodName) (bytes : ByteArray) (maxL : Nat) (n : Nat) : Prop := Cond.instanceMethod y ∈ lw_tbl ∧ Cond.code y bytes maxL none ∈ lw_tbl ∧ Cond.initialized y.cls ∈ lw_tbl ∧ y.name = "<init>" ∧ (y.cls ≠ "java/lang/invoke/MethodHandle" ∧ y.cls ≠ "java/lang/invoke/VarHandle" ∧ (parseMethodDescriptor y.desc).map (fun d => d.parameters.length) = some n)
def MWS (y : MethodName) (bytes : ByteArray) (maxL : Nat) (rt : Option FieldType) (n : Nat) : Prop := Cond.static y ∈ lw_tbl ∧ Cond.code y bytes maxL rt ∈ lw_tbl ∧ Cond.initialized y.cls ∈ lw_tbl ∧ (y.cls ≠ "java/lang/invoke/MethodHandle" ∧ y.cls ≠ "java/lang/invoke/VarHandle" ∧ (parseMethodDescriptor y.desc).map (fun d => d.parameters.length) = some n)
def MWH (y : MethodName) (bytes : ByteArray) (maxL : Nat) (rt : Option FieldType) (hh : List (Nat × Nat × Nat × Nat)) (n : Nat) : Prop := Cond.static y ∈ lw_tbl ∧ Cond.codeWith y bytes maxL rt hh ∈ lw_tbl ∧ Cond.initialized y.cls ∈ lw_tbl ∧ (y.cls ≠ "java/lang/invoke/MethodHandle" ∧ y.cls ≠ "java/lang/invoke/VarHandle" ∧ (parseMethodDescriptor y.desc).map (fun d => d.parameters.length) = some n)
theorem FX.gw (F : FX D tys H0 p l s m args meth c own cc nL ret nm tb) : ∀ w ∈ GW, w.before args s = true := fun w hw => F.2.2.2.2.1 w (List.mem_filter.mp hw).1 (List.mem_filter.mp hw).2
theorem gin {w : Cond} {ws : List Cond} (h1 : w ∈ lw_tbl) (h2 : goodWord w = true) (hs : GoodIn GW ws) : GoodIn GW (w :: ws) := fun x hx => (List.mem_cons.mp hx).elim (fun z => by rw [z]; exact ⟨List.mem_filter.mpr ⟨h1, h2⟩, good_of_word h2⟩) (hs x)
theorem gin0 : GoodIn GW GW := fun x hx => ⟨hx, good_of_word (List.mem_filter.mp hx).2⟩
theorem PC0_pre {As : List Value} (F : FX D tys H0 p l s m args meth c own cc nL ret nm tb) {H : Heap} (hH : HP D H0 ad h H) : ∀ U : State, U.heap = H → s.WarmedH U.vm → PC0 D tys H0 ad h As (As.map (cV ad)).toArray U := fun U hU hW => ⟨rfl, F.2.2.2.2.2.1.warm hW, by rw [hU]; exact hH⟩
theorem wa_callV (F : FX D tys H0 p l s m args meth c own cc nL ret nm tb) {y : MethodName} {bytes : ByteArray} {maxL : Nat} {rt : Option FieldType} {k mc ms : Nat} {As : List Value} {b : Nat} {post : Option Value → (Nat → Nat) → Hp → Prop} {px : String → Prop} (rest : List Value)
    (M : CC l D tys H0 y bytes maxL rt k mc ms (.ref b :: As) ad h post px) (mw : MWV y bytes maxL rt As.length) {index : Nat} (w : Cond.methodLink own index y ∈ lw_tbl) {ci N : Nat} {T : u_T} {fs : List Value} (he : h b = some (.inr (ci, fs))) (hcl : vwCl[ci]? = some (y.cls, T, N))
    (hst : st = As.reverse ++ .ref b :: rest) (hcat : (rest.map fun v => v.category).sum ≤ 8) (hR : k + 1 ≤ R.frames ∧ 8 + (maxL + 11) + (28 * k + 60) ≤ R.locals) (hcs : cells + mc ≤ R.cells ∧ slots + ms ≤ R.slots) (d : decode cc pc = .ok (.invokevirtual index, 3))
    (hag : ∀ v ad' h', post v ad' h' → lv.map (cL ad') = lv.map (cL ad) ∧ rest.map (cV ad') = rest.map (cV ad))
    (kx : ∀ E, px E → WX D H0 p l e R s m args below meth c nL Q ad h (cells + mc) (slots + ms) pc lv E)
    (kk : ∀ v ad' h', post v ad' h' → WA D H0 p l e R s m args below meth c nL Q ad' h' (cells + mc) (slots + ms) (pc + 3) lv (v.toList ++ rest)) :
    WA D H0 p l e R s m args below meth c nL Q ad h cells slots pc lv st := by
  refine wa_of_run (a := (Value.ref (ad b) :: As.map (cV ad)).toArray) (fun H locs ls hH hS hl => ?_) hag kx kk
  refine vx_runV (Ts := GW) ⟨F.1, F.2.1, F.2.2.1, F.2.2.2.1, F.gw⟩ M (C := y.cls) (cwV As.length F.gw ?_ rfl rfl rfl ⟨rfl, mw.2.2.2.2⟩ ⟨hR.1, hR.2⟩) ⟨PC0_blind _ _ _ _ _ _, ?_, fun U hU hW => PC0_pre F hH U hU hW⟩ rfl (by simp) hl.1 ?_ ?_ d hcs
  · exact gin w rfl (gin mw.1 rfl (gin mw.2.1 rfl (gin mw.2.2.2.1 rfl (gin mw.2.2.1 rfl gin0))))
  · exact va_recv F.2.2.2.2.2.1.1 (hH.get he) (q0 := 0) hcl rfl
  · show st.map (cV ad) = _
    rw [hst]
    simp [cV]
  · rw [cat_st]
    show 2 * 0 + _ ≤ 8
    omega
theorem wa_callS (F : FX D tys H0 p l s m args meth c own cc nL ret nm tb) {y : MethodName} {bytes : ByteArray} {maxL : Nat} {rt : Option FieldType} {k mc ms : Nat} {As : List Value} {post : Option Value → (Nat → Nat) → Hp → Prop} {px : String → Prop} (rest : List Value)
    (M : CC l D tys H0 y bytes maxL rt k mc ms As ad h post px) (mw : MWS y bytes maxL rt As.length) {index : Nat} (w : Cond.methodLink own index y ∈ lw_tbl)
    (hst : st = As.reverse ++ rest) (hcat : (rest.map fun v => v.category).sum ≤ 8) (hR : k + 1 ≤ R.frames ∧ 8 + (maxL + 11) + (28 * k + 60) ≤ R.locals) (hcs : cells + mc ≤ R.cells ∧ slots + ms ≤ R.slots) (d : decode cc pc = .ok (.invokestatic index, 3))
    (hag : ∀ v ad' h', post v ad' h' → lv.map (cL ad') = lv.map (cL ad) ∧ rest.map (cV ad') = rest.map (cV ad))
    (kx : ∀ E, px E → WX D H0 p l e R s m args below meth c nL Q ad h (cells + mc) (slots + ms) pc lv E)
    (kk : ∀ v ad' h', post v ad' h' → WA D H0 p l e R s m args below meth c nL Q ad' h' (cells + mc) (slots + ms) (pc + 3) lv (v.toList ++ rest)) :
    WA D H0 p l e R s m args below meth c nL Q ad h cells slots pc lv st := by
  refine wa_of_run (a := (As.map (cV ad)).toArray) (fun H locs ls hH hS hl => ?_) hag kx kk
  refine vx_runS (Ts := GW) (n := As.length) ⟨F.1, F.2.1, F.2.2.1, F.2.2.2.1, F.gw⟩ M ⟨callB_of As.length F.gw (gin mw.2.1 rfl gin0) rfl rfl rfl (F.2.2.2.2.1 _ mw.2.2.1 rfl) (F.2.2.2.2.1 _ w rfl) mw.2.2.2 ⟨hR.1, hR.2⟩, F.2.2.2.2.1 _ mw.1 rfl⟩ ⟨PC0_blind _ _ _ _ _ _, fun U hU hW => PC0_pre F hH U hU hW⟩ rfl (by simp) hl.1 ?_ ?_ d hcs
  · show st.map (cV ad) = _
    rw [hst]
    simp
  · rw [cat_st]
    show 2 * 0 + _ ≤ 8
    omega
theorem wa_callH (F : FX D tys H0 p l s m args meth c own cc nL ret nm tb) {y : MethodName} {bytes : ByteArray} {maxL : Nat} {rt : Option FieldType} {hh : List (Nat × Nat × Nat × Nat)} {k mc ms : Nat} {As : List Value} {post : Option Value → (Nat → Nat) → Hp → Prop} {px : String → Prop} (rest : List Value)
    (M : CCH l D tys H0 y bytes maxL rt hh k mc ms As ad h post px) (mw : MWH y bytes maxL rt hh As.length) {index : Nat} (w : Cond.methodLink own index y ∈ lw_tbl)
    (hst : st = As.reverse ++ rest) (hcat : (rest.map fun v => v.category).sum ≤ 8) (hR : k + 1 ≤ R.frames ∧ 8 + (maxL + 11) + (28 * k + 60) ≤ R.locals) (hcs : cells + mc ≤ R.cells ∧ slots + ms ≤ R.slots) (d : decode cc pc = .ok (.invokestatic index, 3))
    (hag : ∀ v ad' h', post v ad' h' → lv.map (cL ad') = lv.map (cL ad) ∧ rest.map (cV ad') = rest.map (cV ad))
    (kx : ∀ E, px E → WX D H0 p l e R s m args below meth c nL Q ad h (cells + mc) (slots + ms) pc lv E)
    (kk : ∀ v ad' h', post v ad' h' → WA D H0 p l e R s m args below meth c nL Q ad' h' (cells + mc) (slots + ms) (pc + 3) lv (v.toList ++ rest)) :
    WA D H0 p l e R s m args below meth c nL Q ad h cells slots pc lv st := by
  refine wa_of_run (a := (As.map (cV ad)).toArray) (fun H locs ls hH hS hl => ?_) hag kx kk
  refine vx_runSX (Ts := GW) (n := As.length) ⟨F.1, F.2.1, F.2.2.1, F.2.2.2.1, F.gw⟩ M (vx_cwSW As.length F.gw (gin w rfl (gin mw.1 rfl (gin mw.2.2.1 rfl (gin mw.2.1 rfl gin0)))) rfl rfl rfl mw.2.2.2 ⟨hR.1, hR.2⟩) ⟨PC0_blind _ _ _ _ _ _, fun U hU hW => PC0_pre F hH U hU hW⟩ rfl (by simp) hl.1 ?_ ?_ d hcs
  · show st.map (cV ad) = _
    rw [hst]
    simp
  · rw [cat_st]
    show 2 * 0 + _ ≤ 8
    omega
theorem wa_callI (F : FX D tys H0 p l s m args meth c own cc nL ret nm tb) {y : MethodName} {bytes : ByteArray} {maxL : Nat} {k mc ms : Nat} {As : List Value} {b : Nat} {post : Option Value → (Nat → Nat) → Hp → Prop} {px : String → Prop} (rest : List Value)
    (M : CC l D tys H0 y bytes maxL none k mc ms (.ref b :: As) ad h post px) (mw : MWI y bytes maxL As.length) {index : Nat} (w : Cond.methodLink own index y ∈ lw_tbl)
    (hst : st = As.reverse ++ .ref b :: rest) (hcat : (rest.map fun v => v.category).sum ≤ 8) (hR : k + 1 ≤ R.frames ∧ 8 + (maxL + 11) + (28 * k + 60) ≤ R.locals) (hcs : cells + mc ≤ R.cells ∧ slots + ms ≤ R.slots) (d : decode cc pc = .ok (.invokespecial index, 3))
    (hag : ∀ v ad' h', post v ad' h' → lv.map (cL ad') = lv.map (cL ad) ∧ rest.map (cV ad') = rest.map (cV ad))
    (kx : ∀ E, px E → WX D H0 p l e R s m args below meth c nL Q ad h (cells + mc) (slots + ms) pc lv E)
    (kk : ∀ v ad' h', post v ad' h' → WA D H0 p l e R s m args below meth c nL Q ad' h' (cells + mc) (slots + ms) (pc + 3) lv (v.toList ++ rest)) :
    WA D H0 p l e R s m args below meth c nL Q ad h cells slots pc lv st := by
  refine wa_of_run (a := (Value.ref (ad b) :: As.map (cV ad)).toArray) (fun H locs ls hH hS hl => ?_) hag kx kk
  refine vx_runI (Ts := GW) (n := As.length) ⟨F.1, F.2.1, F.2.2.1, F.2.2.2.1, F.gw⟩ M (cwI As.length F.gw (gin mw.2.1 rfl gin0) rfl rfl rfl (F.2.2.2.2.1 _ mw.2.2.1 rfl) (F.2.2.2.2.1 _ w rfl) (F.2.2.2.2.1 _ mw.1 rfl) mw.2.2.2.1 mw.2.2.2.2 ⟨hR.1, hR.2⟩) ⟨PC0_blind _ _ _ _ _ _, fun U hU hW => PC0_pre F hH U hU hW⟩ rfl (by simp) hl.1 ?_ ?_ d hcs
  · show st.map (cV ad) = _
    rw [hst]
    simp [cV]
  · rw [cat_st]
    show 2 * 0 + _ ≤ 8
    omega
theorem wa_objInit (F : FX D tys H0 p l s m args meth c own cc nL ret nm tb) {index : Nat} (w1 : Cond.methodLink own index objectInit ∈ lw_tbl) (w2 : Cond.instanceMethod objectInit ∈ lw_tbl) (w3 : Cond.code objectInit ⟨#[0xb1]⟩ 1 none ∈ lw_tbl) {n : Nat} (hR : 1 ≤ R.frames ∧ 8 + 12 ≤ R.locals) (hcat : (st.map fun v => v.category).sum ≤ 8) (d : decode cc pc = .ok (.invokespecial index, 3))
    (K : WA D H0 p l e R s m args below meth c nL Q ad h cells slots (pc + 3) lv st) : WA D H0 p l e R s m args below meth c nL Q ad h cells slots pc lv (.ref n :: st) := fun H locs ls hH hS hl => by
  refine W.objInit F.1 F.2.1 F.2.2.2.1 (F.2.2.2.2.1 _ w1 rfl) (F.2.2.2.2.1 _ w2 rfl) (F.2.2.2.2.1 _ w3 rfl) rfl (hl.1.trans F.2.2.1.symm) rfl d hR.1 ?_ (K H locs ls hH hS hl)
  rw [cat_st]
  show 2 * 0 + _ + 12 ≤ _
  omega
theorem wa_max (F : FX D tys H0 p l s m args meth c own cc nL ret nm tb) {index : Nat} (w1 : Cond.methodLink own index Lib.Math.max.name ∈ lw_tbl) (w2 : Cond.static Lib.Math.max.name ∈ lw_tbl) (w3 : Cond.initialized "java/lang/Math" ∈ lw_tbl) (w4 : Cond.code Lib.Math.max.name Lib.Math.max.code 2 (some .int) ∈ lw_tbl) {x y : Int32} (hR : 1 ≤ R.frames ∧ 8 + 13 ≤ R.locals) (hcat : (st.map fun v => v.category).sum ≤ 8) (hcs : cells ≤ R.cells ∧ slots ≤ R.slots) (d : decode cc pc = .ok (.invokestatic index, 3))
    (K : WA D H0 p l e R s m args below meth c nL Q ad h cells slots (pc + 3) lv (.int (if x < y then y else x) :: st)) : WA D H0 p l e R s m args below meth c nL Q ad h cells slots pc lv (.int y :: .int x :: st) := fun H locs ls hH hS hl => by
  refine va_mmax F.1 F.2.1 (F.2.2.1.trans hl.1.symm) F.2.2.2.1 (F.2.2.2.2.1 _ w1 rfl) (F.2.2.2.2.1 _ w2 rfl) (F.2.2.2.2.1 _ w3 rfl) (F.2.2.2.2.1 _ w4 rfl) hR.1 ?_ hcs.1 hcs.2 d (K H locs ls hH hS hl)
  rw [cat_st]
  omega
/-- a thrown object is caught by the row x of this method's table; the rows ahead of it are for other classes -/
theorem wx_catch {nameX E : String} (F : FX D tys H0 p l s m args meth c own cc nL ret nm tb) (pre : List ExceptionTableEntry) (x : ExceptionTableEntry) (suf : List ExceptionTableEntry) (hsplit : tb = pre ++ x :: suf)
    (hpass : ∀ z ∈ pre, z.catchType ≠ 0 ∧ ∃ nm0 : String, Cond.classLink own z.catchType nm0 ∈ lw_tbl ∧ E ∈ xcs ∧ nm0 ∈ xcs ∧ E ≠ nm0) (hx : covers x pc = true) (h0 : x.catchType ≠ 0) (w1 : Cond.classLink own x.catchType nameX ∈ lw_tbl) (w2 : Cond.castable E nameX ∈ lw_tbl)
    (n : Nat) (hpc : x.handlerPc = n) (K : ∀ q : Nat, ∀ H : Heap, ∀ locs : List Loc, ∀ ls : Array Slot, HP D H0 ad h H → va_S (hA0 H0) s.heap H locs → lv_has ls nL (lv.map (cL ad)) → W p l e R s m args below meth c H locs cells slots Q (F0 m n ls [.ref q])) :
    WX D H0 p l e R s m args below meth c nL Q ad h cells slots pc lv E := by
  subst hpc
  intro H locs ls rest q ce hH hS hl hce hcv hcl
  refine vx_catch F.2.2.2.1 pre x suf (F.2.2.2.2.2.2.2.2.2.2.1.trans hsplit) (fun z hz => ?_) hx h0 (F.2.2.2.2.1 _ w1 rfl) (va_Nw.use rfl (F.2.2.2.2.2.1.2.2.2.2.2.2.1 _ w2 rfl)) hce hcv hcl (K q H locs ls hH hS hl)
  obtain ⟨z0, nm0, h1, h2, h3, h4⟩ := hpass z hz
  exact Or.inr ⟨z0, nm0, F.2.2.2.2.1 _ h1 rfl, F.2.2.2.2.2.1.2.2.2.2.2.2.2 E h2 nm0 h3 h4⟩
/-- the handler's first step: the thrown object goes into a place that nobody reads -/
theorem wa_drop_n (F : FX D tys H0 p l s m args meth c own cc nL ret nm tb) {k : Fin 4} {i : Nat} (d : decode cc pc = .ok (.astore_n k, 1)) (hi : (k : Nat) = i) (hn : i < nL) (hv : lv.filter (lvP i) = lv') (K : WA D H0 p l e R s m args below meth c nL Q ad h cells slots (pc + 1) lv' []) :
    ∀ q : Nat, ∀ H : Heap, ∀ locs : List Loc, ∀ ls : Array Slot, HP D H0 ad h H → va_S (hA0 H0) s.heap H locs → lv_has ls nL (lv.map (cL ad)) → W p l e R s m args below meth c H locs cells slots Q (F0 m pc ls [.ref q]) := fun q H locs ls hH hS hl => by
  refine lv_astore_n F.1 F.2.1 d hi hl hn rfl (fun ls' hl' => K H locs ls' hH hS ?_)
  subst hv
  rw [← filt_map ad (lvP i) (fun q => by unfold lvP cL; rw [cat_cV]) lv]
  exact ⟨hl'.1, hl'.2.1, fun z hz => hl'.2.2 z (List.mem_cons_of_mem _ hz)⟩
theorem wa_drop (F : FX D tys H0 p l s m args meth c own cc nL ret nm tb) {i : Nat} (d : decode cc pc = .ok (.astore i, 2)) (hn : i < nL) (hv : lv.filter (lvP i) = lv') (K : WA D H0 p l e R s m args below meth c nL Q ad h cells slots (pc + 2) lv' []) :
    ∀ q : Nat, ∀ H : Heap, ∀ locs : List Loc, ∀ ls : Array Slot, HP D H0 ad h H → va_S (hA0 H0) s.heap H locs → lv_has ls nL (lv.map (cL ad)) → W p l e R s m args below meth c H locs cells slots Q (F0 m pc ls [.ref q]) := fun q H locs ls hH hS hl => by
  refine lv_astore F.1 F.2.1 d hl hn rfl (fun ls' hl' => K H locs ls' hH hS ?_)
  subst hv
  rw [← filt_map ad (lvP i) (fun q => by unfold lvP cL; rw [cat_cV]) lv]
  exact ⟨hl'.1, hl'.2.1, fun z hz => hl'.2.2 z (List.mem_cons_of_mem _ hz)⟩
end CALLS
end
section
theorem LY_X0 : LY 0 RX0 TX0 5 tyX0 := ⟨rfl, by decide +kernel, tyX0_ok, nmX0, by decide +kernel⟩
theorem LY_X1 : LY 1 RX1 TX1 9 tyX1 := ⟨rfl, by decide +kernel, tyX1_ok, nmX1, by decide +kernel⟩
theorem LY_X2 : LY 2 RX2 TX2 3 tyX2 := ⟨rfl, by decide +kernel, tyX2_ok, nmX2, by decide +kernel⟩
theorem LY_X3 : LY 3 RX3 TX3 11 tyX3 := ⟨rfl, by decide +kernel, tyX3_ok, nmX3, by decide +kernel⟩
theorem LY_X4 : LY 4 RX4 TX4 3 tyX4 := ⟨rfl, by decide +kernel, tyX4_ok, nmX4, by decide +kernel⟩
theorem LY_X5 : LY 5 RX5 TX5 11 tyX5 := ⟨rfl, by decide +kernel, tyX5_ok, nmX5, by decide +kernel⟩
theorem LY_X6 : LY 6 RX6 TX6 38 tyX6 := ⟨rfl, by decide +kernel, tyX6_ok, nmX6, by decide +kernel⟩
theorem mw_X0_init : MWI yX0_init cX0_init 5 4 := ⟨List.mem_of_getElem? (i := 210) (by decide +kernel), List.mem_of_getElem? (i := 211) (by decide +kernel), List.mem_of_getElem? (i := 48) (by decide +kernel), rfl, by decide +kernel⟩
theorem mw_X0_isForByItself : MWV yX0_isForByItself cX0_isForByItself 3 (some .boolean) 2 := ⟨List.mem_of_getElem? (i := 438) (by decide +kernel), List.mem_of_getElem? (i := 439) (by decide +kernel), List.mem_of_getElem? (i := 440) (by decide +kernel), List.mem_of_getElem? (i := 48) (by decide +kernel), by decide +kernel⟩
theorem mw_X1_init : MWI yX1_init cX1_init 6 5 := ⟨List.mem_of_getElem? (i := 573) (by decide +kernel), List.mem_of_getElem? (i := 574) (by decide +kernel), List.mem_of_getElem? (i := 54) (by decide +kernel), rfl, by decide +kernel⟩
theorem mw_X1_isOnMarketOf : MWV yX1_isOnMarketOf cX1_isOnMarketOf 2 (some .boolean) 1 := ⟨List.mem_of_getElem? (i := 663) (by decide +kernel), List.mem_of_getElem? (i := 664) (by decide +kernel), List.mem_of_getElem? (i := 665) (by decide +kernel), List.mem_of_getElem? (i := 54) (by decide +kernel), by decide +kernel⟩
theorem mw_X1_alarmLevel : MWV yX1_alarmLevel cX1_alarmLevel 1 (some .int) 0 := ⟨List.mem_of_getElem? (i := 644) (by decide +kernel), List.mem_of_getElem? (i := 645) (by decide +kernel), List.mem_of_getElem? (i := 646) (by decide +kernel), List.mem_of_getElem? (i := 54) (by decide +kernel), by decide +kernel⟩
theorem mw_X1_alarmByHarm : MWV yX1_alarmByHarm cX1_alarmByHarm 3 (some .int) 0 := ⟨List.mem_of_getElem? (i := 649) (by decide +kernel), List.mem_of_getElem? (i := 16) (by decide +kernel), List.mem_of_getElem? (i := 650) (by decide +kernel), List.mem_of_getElem? (i := 54) (by decide +kernel), by decide +kernel⟩
theorem mw_X2_init : MWI yX2_init cX2_init 3 2 := ⟨List.mem_of_getElem? (i := 501) (by decide +kernel), List.mem_of_getElem? (i := 502) (by decide +kernel), List.mem_of_getElem? (i := 53) (by decide +kernel), rfl, by decide +kernel⟩
theorem mw_X2_isSuspended : MWV yX2_isSuspended cX2_isSuspended 1 (some .boolean) 0 := ⟨List.mem_of_getElem? (i := 483) (by decide +kernel), List.mem_of_getElem? (i := 484) (by decide +kernel), List.mem_of_getElem? (i := 485) (by decide +kernel), List.mem_of_getElem? (i := 53) (by decide +kernel), by decide +kernel⟩
theorem mw_X2_hasInScope : MWV yX2_hasInScope cX2_hasInScope 2 (some .boolean) 1 := ⟨List.mem_of_getElem? (i := 475) (by decide +kernel), List.mem_of_getElem? (i := 476) (by decide +kernel), List.mem_of_getElem? (i := 477) (by decide +kernel), List.mem_of_getElem? (i := 53) (by decide +kernel), by decide +kernel⟩
theorem mw_X2_isCertificateUpheld : MWV yX2_isCertificateUpheld cX2_isCertificateUpheld 2 (some .boolean) 1 := ⟨List.mem_of_getElem? (i := 479) (by decide +kernel), List.mem_of_getElem? (i := 480) (by decide +kernel), List.mem_of_getElem? (i := 481) (by decide +kernel), List.mem_of_getElem? (i := 53) (by decide +kernel), by decide +kernel⟩
theorem mw_X3_init : MWI yX3_init cX3_init 2 1 := ⟨List.mem_of_getElem? (i := 321) (by decide +kernel), List.mem_of_getElem? (i := 322) (by decide +kernel), List.mem_of_getElem? (i := 51) (by decide +kernel), rfl, by decide +kernel⟩
theorem mw_X3_startNextVersion : MWV yX3_startNextVersion cX3_startNextVersion 2 none 0 := ⟨List.mem_of_getElem? (i := 382) (by decide +kernel), List.mem_of_getElem? (i := 383) (by decide +kernel), List.mem_of_getElem? (i := 384) (by decide +kernel), List.mem_of_getElem? (i := 51) (by decide +kernel), by decide +kernel⟩
theorem mw_X3_endCertificate : MWV yX3_endCertificate cX3_endCertificate 1 none 0 := ⟨List.mem_of_getElem? (i := 386) (by decide +kernel), List.mem_of_getElem? (i := 387) (by decide +kernel), List.mem_of_getElem? (i := 388) (by decide +kernel), List.mem_of_getElem? (i := 51) (by decide +kernel), by decide +kernel⟩
theorem mw_X3_isVisitCounted : MWV yX3_isVisitCounted cX3_isVisitCounted 2 (some .boolean) 1 := ⟨List.mem_of_getElem? (i := 487) (by decide +kernel), List.mem_of_getElem? (i := 488) (by decide +kernel), List.mem_of_getElem? (i := 489) (by decide +kernel), List.mem_of_getElem? (i := 51) (by decide +kernel), by decide +kernel⟩
theorem mw_X3_hazardsBeforeAbove : MWV yX3_hazardsBeforeAbove cX3_hazardsBeforeAbove 2 (some .int) 1 := ⟨List.mem_of_getElem? (i := 442) (by decide +kernel), List.mem_of_getElem? (i := 443) (by decide +kernel), List.mem_of_getElem? (i := 444) (by decide +kernel), List.mem_of_getElem? (i := 51) (by decide +kernel), by decide +kernel⟩
theorem mw_X3_hazardsAfterAbove : MWV yX3_hazardsAfterAbove cX3_hazardsAfterAbove 2 (some .int) 1 := ⟨List.mem_of_getElem? (i := 459) (by decide +kernel), List.mem_of_getElem? (i := 460) (by decide +kernel), List.mem_of_getElem? (i := 461) (by decide +kernel), List.mem_of_getElem? (i := 51) (by decide +kernel), by decide +kernel⟩
theorem mw_X3_hazardsAbove : MWS yX3_hazardsAbove cX3_hazardsAbove 4 (some .int) 2 := ⟨List.mem_of_getElem? (i := 446) (by decide +kernel), List.mem_of_getElem? (i := 447) (by decide +kernel), List.mem_of_getElem? (i := 51) (by decide +kernel), by decide +kernel⟩
theorem mw_X4_init : MWI yX4_init cX4_init 3 2 := ⟨List.mem_of_getElem? (i := 277) (by decide +kernel), List.mem_of_getElem? (i := 278) (by decide +kernel), List.mem_of_getElem? (i := 50) (by decide +kernel), rfl, by decide +kernel⟩
theorem mw_X4_isListedOn : MWV yX4_isListedOn cX4_isListedOn 2 (some .boolean) 1 := ⟨List.mem_of_getElem? (i := 467) (by decide +kernel), List.mem_of_getElem? (i := 468) (by decide +kernel), List.mem_of_getElem? (i := 469) (by decide +kernel), List.mem_of_getElem? (i := 50) (by decide +kernel), by decide +kernel⟩
theorem mw_X5_init : MWI yX5_init cX5_init 1 0 := ⟨List.mem_of_getElem? (i := 59) (by decide +kernel), List.mem_of_getElem? (i := 60) (by decide +kernel), List.mem_of_getElem? (i := 41) (by decide +kernel), rfl, by decide +kernel⟩
theorem mw_X5_act : MWV yX5_act cX5_act 5 (some .int) 4 := ⟨List.mem_of_getElem? (i := 118) (by decide +kernel), List.mem_of_getElem? (i := 119) (by decide +kernel), List.mem_of_getElem? (i := 120) (by decide +kernel), List.mem_of_getElem? (i := 41) (by decide +kernel), by decide +kernel⟩
theorem mw_X5_special : MWV yX5_special cX5_special 6 (some .boolean) 2 := ⟨List.mem_of_getElem? (i := 235) (by decide +kernel), List.mem_of_getElem? (i := 236) (by decide +kernel), List.mem_of_getElem? (i := 237) (by decide +kernel), List.mem_of_getElem? (i := 41) (by decide +kernel), by decide +kernel⟩
theorem mw_X5_standard : MWV yX5_standard cX5_standard 3 (some .int) 2 := ⟨List.mem_of_getElem? (i := 271) (by decide +kernel), List.mem_of_getElem? (i := 272) (by decide +kernel), List.mem_of_getElem? (i := 273) (by decide +kernel), List.mem_of_getElem? (i := 41) (by decide +kernel), by decide +kernel⟩
theorem mw_X5_withdraw : MWV yX5_withdraw cX5_withdraw 5 (some .int) 2 := ⟨List.mem_of_getElem? (i := 296) (by decide +kernel), List.mem_of_getElem? (i := 297) (by decide +kernel), List.mem_of_getElem? (i := 298) (by decide +kernel), List.mem_of_getElem? (i := 41) (by decide +kernel), by decide +kernel⟩
theorem mw_X5_restrict : MWV yX5_restrict cX5_restrict 4 (some .int) 2 := ⟨List.mem_of_getElem? (i := 308) (by decide +kernel), List.mem_of_getElem? (i := 309) (by decide +kernel), List.mem_of_getElem? (i := 310) (by decide +kernel), List.mem_of_getElem? (i := 41) (by decide +kernel), by decide +kernel⟩
theorem mw_X5_product : MWV yX5_product cX5_product 2 (some .int) 1 := ⟨List.mem_of_getElem? (i := 315) (by decide +kernel), List.mem_of_getElem? (i := 316) (by decide +kernel), List.mem_of_getElem? (i := 317) (by decide +kernel), List.mem_of_getElem? (i := 41) (by decide +kernel), by decide +kernel⟩
theorem mw_X5_change : MWV yX5_change cX5_change 4 (some .int) 2 := ⟨List.mem_of_getElem? (i := 373) (by decide +kernel), List.mem_of_getElem? (i := 374) (by decide +kernel), List.mem_of_getElem? (i := 375) (by decide +kernel), List.mem_of_getElem? (i := 41) (by decide +kernel), by decide +kernel⟩
theorem mw_X5_risk : MWV yX5_risk cX5_risk 7 (some .int) 4 := ⟨List.mem_of_getElem? (i := 393) (by decide +kernel), List.mem_of_getElem? (i := 394) (by decide +kernel), List.mem_of_getElem? (i := 395) (by decide +kernel), List.mem_of_getElem? (i := 41) (by decide +kernel), by decide +kernel⟩
theorem mw_X5_follow : MWV yX5_follow cX5_follow 6 (some .int) 3 := ⟨List.mem_of_getElem? (i := 404) (by decide +kernel), List.mem_of_getElem? (i := 405) (by decide +kernel), List.mem_of_getElem? (i := 406) (by decide +kernel), List.mem_of_getElem? (i := 41) (by decide +kernel), by decide +kernel⟩
theorem mw_X5_prove : MWV yX5_prove cX5_prove 4 (some .int) 2 := ⟨List.mem_of_getElem? (i := 411) (by decide +kernel), List.mem_of_getElem? (i := 412) (by decide +kernel), List.mem_of_getElem? (i := 413) (by decide +kernel), List.mem_of_getElem? (i := 41) (by decide +kernel), by decide +kernel⟩
theorem mw_X5_declare : MWV yX5_declare cX5_declare 4 (some .int) 1 := ⟨List.mem_of_getElem? (i := 418) (by decide +kernel), List.mem_of_getElem? (i := 419) (by decide +kernel), List.mem_of_getElem? (i := 420) (by decide +kernel), List.mem_of_getElem? (i := 41) (by decide +kernel), by decide +kernel⟩
theorem mw_X5_body : MWV yX5_body cX5_body 2 (some .int) 1 := ⟨List.mem_of_getElem? (i := 495) (by decide +kernel), List.mem_of_getElem? (i := 496) (by decide +kernel), List.mem_of_getElem? (i := 497) (by decide +kernel), List.mem_of_getElem? (i := 41) (by decide +kernel), by decide +kernel⟩
theorem mw_X5_suspend : MWV yX5_suspend cX5_suspend 5 (some .boolean) 2 := ⟨List.mem_of_getElem? (i := 520) (by decide +kernel), List.mem_of_getElem? (i := 521) (by decide +kernel), List.mem_of_getElem? (i := 522) (by decide +kernel), List.mem_of_getElem? (i := 41) (by decide +kernel), by decide +kernel⟩
theorem mw_X5_certify : MWV yX5_certify cX5_certify 7 (some .int) 3 := ⟨List.mem_of_getElem? (i := 533) (by decide +kernel), List.mem_of_getElem? (i := 534) (by decide +kernel), List.mem_of_getElem? (i := 535) (by decide +kernel), List.mem_of_getElem? (i := 41) (by decide +kernel), by decide +kernel⟩
theorem mw_X5_transfer : MWV yX5_transfer cX5_transfer 6 (some .int) 2 := ⟨List.mem_of_getElem? (i := 546) (by decide +kernel), List.mem_of_getElem? (i := 547) (by decide +kernel), List.mem_of_getElem? (i := 548) (by decide +kernel), List.mem_of_getElem? (i := 41) (by decide +kernel), by decide +kernel⟩
theorem mw_X5_visit : MWV yX5_visit cX5_visit 5 (some .boolean) 2 := ⟨List.mem_of_getElem? (i := 554) (by decide +kernel), List.mem_of_getElem? (i := 555) (by decide +kernel), List.mem_of_getElem? (i := 556) (by decide +kernel), List.mem_of_getElem? (i := 41) (by decide +kernel), by decide +kernel⟩
theorem mw_X5_place : MWV yX5_place cX5_place 4 (some .int) 2 := ⟨List.mem_of_getElem? (i := 562) (by decide +kernel), List.mem_of_getElem? (i := 563) (by decide +kernel), List.mem_of_getElem? (i := 564) (by decide +kernel), List.mem_of_getElem? (i := 41) (by decide +kernel), by decide +kernel⟩
theorem mw_X5_post : MWV yX5_post cX5_post 4 (some .int) 2 := ⟨List.mem_of_getElem? (i := 617) (by decide +kernel), List.mem_of_getElem? (i := 618) (by decide +kernel), List.mem_of_getElem? (i := 619) (by decide +kernel), List.mem_of_getElem? (i := 41) (by decide +kernel), by decide +kernel⟩
theorem mw_X5_sample : MWV yX5_sample cX5_sample 6 (some .int) 4 := ⟨List.mem_of_getElem? (i := 624) (by decide +kernel), List.mem_of_getElem? (i := 625) (by decide +kernel), List.mem_of_getElem? (i := 626) (by decide +kernel), List.mem_of_getElem? (i := 41) (by decide +kernel), by decide +kernel⟩
theorem mw_X5_event : MWV yX5_event cX5_event 5 (some .int) 3 := ⟨List.mem_of_getElem? (i := 637) (by decide +kernel), List.mem_of_getElem? (i := 638) (by decide +kernel), List.mem_of_getElem? (i := 639) (by decide +kernel), List.mem_of_getElem? (i := 41) (by decide +kernel), by decide +kernel⟩
theorem mw_X5_recall : MWV yX5_recall cX5_recall 7 (some .int) 3 := ⟨List.mem_of_getElem? (i := 658) (by decide +kernel), List.mem_of_getElem? (i := 659) (by decide +kernel), List.mem_of_getElem? (i := 660) (by decide +kernel), List.mem_of_getElem? (i := 41) (by decide +kernel), by decide +kernel⟩
theorem mw_X5_ban : MWV yX5_ban cX5_ban 5 (some .int) 3 := ⟨List.mem_of_getElem? (i := 670) (by decide +kernel), List.mem_of_getElem? (i := 671) (by decide +kernel), List.mem_of_getElem? (i := 672) (by decide +kernel), List.mem_of_getElem? (i := 41) (by decide +kernel), by decide +kernel⟩
theorem mw_X5_pass : MWV yX5_pass cX5_pass 2 (some .int) 1 := ⟨List.mem_of_getElem? (i := 678) (by decide +kernel), List.mem_of_getElem? (i := 679) (by decide +kernel), List.mem_of_getElem? (i := 680) (by decide +kernel), List.mem_of_getElem? (i := 41) (by decide +kernel), by decide +kernel⟩
theorem mw_X5_day : MWV yX5_day cX5_day 1 (some .int) 0 := ⟨List.mem_of_getElem? (i := 109) (by decide +kernel), List.mem_of_getElem? (i := 110) (by decide +kernel), List.mem_of_getElem? (i := 111) (by decide +kernel), List.mem_of_getElem? (i := 41) (by decide +kernel), by decide +kernel⟩
theorem mw_X5_applies : MWV yX5_applies cX5_applies 3 (some .boolean) 2 := ⟨List.mem_of_getElem? (i := 686) (by decide +kernel), List.mem_of_getElem? (i := 687) (by decide +kernel), List.mem_of_getElem? (i := 688) (by decide +kernel), List.mem_of_getElem? (i := 41) (by decide +kernel), by decide +kernel⟩
theorem mw_X5_demands : MWV yX5_demands cX5_demands 5 (some .int) 2 := ⟨List.mem_of_getElem? (i := 693) (by decide +kernel), List.mem_of_getElem? (i := 694) (by decide +kernel), List.mem_of_getElem? (i := 695) (by decide +kernel), List.mem_of_getElem? (i := 41) (by decide +kernel), by decide +kernel⟩
theorem mw_X5_way : MWV yX5_way cX5_way 3 (some .int) 1 := ⟨List.mem_of_getElem? (i := 700) (by decide +kernel), List.mem_of_getElem? (i := 701) (by decide +kernel), List.mem_of_getElem? (i := 702) (by decide +kernel), List.mem_of_getElem? (i := 41) (by decide +kernel), by decide +kernel⟩
theorem mw_X5_wanting : MWV yX5_wanting cX5_wanting 2 (some .int) 1 := ⟨List.mem_of_getElem? (i := 707) (by decide +kernel), List.mem_of_getElem? (i := 708) (by decide +kernel), List.mem_of_getElem? (i := 709) (by decide +kernel), List.mem_of_getElem? (i := 41) (by decide +kernel), by decide +kernel⟩
theorem mw_X5_productOf : MWV yX5_productOf cX5_productOf 4 (some .int) 2 := ⟨List.mem_of_getElem? (i := 714) (by decide +kernel), List.mem_of_getElem? (i := 715) (by decide +kernel), List.mem_of_getElem? (i := 716) (by decide +kernel), List.mem_of_getElem? (i := 41) (by decide +kernel), by decide +kernel⟩
theorem mw_X5_riskOf : MWV yX5_riskOf cX5_riskOf 5 (some .int) 3 := ⟨List.mem_of_getElem? (i := 726) (by decide +kernel), List.mem_of_getElem? (i := 727) (by decide +kernel), List.mem_of_getElem? (i := 728) (by decide +kernel), List.mem_of_getElem? (i := 41) (by decide +kernel), by decide +kernel⟩
theorem mw_X5_batchOf : MWV yX5_batchOf cX5_batchOf 4 (some .int) 2 := ⟨List.mem_of_getElem? (i := 733) (by decide +kernel), List.mem_of_getElem? (i := 734) (by decide +kernel), List.mem_of_getElem? (i := 735) (by decide +kernel), List.mem_of_getElem? (i := 41) (by decide +kernel), by decide +kernel⟩
theorem mw_X5_wantingAnew : MWV yX5_wantingAnew cX5_wantingAnew 2 (some .int) 1 := ⟨List.mem_of_getElem? (i := 740) (by decide +kernel), List.mem_of_getElem? (i := 741) (by decide +kernel), List.mem_of_getElem? (i := 742) (by decide +kernel), List.mem_of_getElem? (i := 41) (by decide +kernel), by decide +kernel⟩
theorem mw_X5_actAt : MWV yX5_actAt cX5_actAt 3 (some (.object "Conformary$Act")) 1 := ⟨List.mem_of_getElem? (i := 240) (by decide +kernel), List.mem_of_getElem? (i := 1) (by decide +kernel), List.mem_of_getElem? (i := 241) (by decide +kernel), List.mem_of_getElem? (i := 41) (by decide +kernel), by decide +kernel⟩
theorem mw_X5_standardAt : MWV yX5_standardAt cX5_standardAt 3 (some (.object "Conformary$Standard")) 1 := ⟨List.mem_of_getElem? (i := 301) (by decide +kernel), List.mem_of_getElem? (i := 3) (by decide +kernel), List.mem_of_getElem? (i := 302) (by decide +kernel), List.mem_of_getElem? (i := 41) (by decide +kernel), by decide +kernel⟩
theorem mw_X5_productAt : MWV yX5_productAt cX5_productAt 3 (some (.object "Conformary$Product")) 1 := ⟨List.mem_of_getElem? (i := 378) (by decide +kernel), List.mem_of_getElem? (i := 4) (by decide +kernel), List.mem_of_getElem? (i := 379) (by decide +kernel), List.mem_of_getElem? (i := 41) (by decide +kernel), by decide +kernel⟩
theorem mw_X5_bodyAt : MWV yX5_bodyAt cX5_bodyAt 3 (some (.object "Conformary$Body")) 1 := ⟨List.mem_of_getElem? (i := 525) (by decide +kernel), List.mem_of_getElem? (i := 12) (by decide +kernel), List.mem_of_getElem? (i := 526) (by decide +kernel), List.mem_of_getElem? (i := 41) (by decide +kernel), by decide +kernel⟩
theorem mw_X5_batchAt : MWV yX5_batchAt cX5_batchAt 3 (some (.object "Conformary$Batch")) 1 := ⟨List.mem_of_getElem? (i := 629) (by decide +kernel), List.mem_of_getElem? (i := 15) (by decide +kernel), List.mem_of_getElem? (i := 630) (by decide +kernel), List.mem_of_getElem? (i := 41) (by decide +kernel), by decide +kernel⟩
theorem mw_X5_checkHazard : MWS yX5_checkHazard cX5_checkHazard 1 none 1 := ⟨List.mem_of_getElem? (i := 397) (by decide +kernel), List.mem_of_getElem? (i := 398) (by decide +kernel), List.mem_of_getElem? (i := 41) (by decide +kernel), by decide +kernel⟩
theorem mw_X5_checkRange : MWS yX5_checkRange cX5_checkRange 3 none 3 := ⟨List.mem_of_getElem? (i := 122) (by decide +kernel), List.mem_of_getElem? (i := 123) (by decide +kernel), List.mem_of_getElem? (i := 41) (by decide +kernel), by decide +kernel⟩
theorem mw_X5_checkMayCertify : MWV yX5_checkMayCertify cX5_checkMayCertify 3 none 2 := ⟨List.mem_of_getElem? (i := 538) (by decide +kernel), List.mem_of_getElem? (i := 13) (by decide +kernel), List.mem_of_getElem? (i := 539) (by decide +kernel), List.mem_of_getElem? (i := 41) (by decide +kernel), by decide +kernel⟩
theorem mw_X5_hasBit : MWS yX5_hasBit cX5_hasBit 2 (some .boolean) 2 := ⟨List.mem_of_getElem? (i := 264) (by decide +kernel), List.mem_of_getElem? (i := 265) (by decide +kernel), List.mem_of_getElem? (i := 41) (by decide +kernel), by decide +kernel⟩
theorem mw_X5_actsMoreSpecialThan : MWV yX5_actsMoreSpecialThan cX5_actsMoreSpecialThan 6 (some .int) 1 := ⟨List.mem_of_getElem? (i := 261) (by decide +kernel), List.mem_of_getElem? (i := 2) (by decide +kernel), List.mem_of_getElem? (i := 262) (by decide +kernel), List.mem_of_getElem? (i := 41) (by decide +kernel), by decide +kernel⟩
theorem mw_X5_actsForByThemselves : MWV yX5_actsForByThemselves cX5_actsForByThemselves 5 (some .int) 1 := ⟨List.mem_of_getElem? (i := 435) (by decide +kernel), List.mem_of_getElem? (i := 8) (by decide +kernel), List.mem_of_getElem? (i := 436) (by decide +kernel), List.mem_of_getElem? (i := 41) (by decide +kernel), by decide +kernel⟩
theorem mw_X5_actsApplyingTo : MWV yX5_actsApplyingTo cX5_actsApplyingTo 6 (some .int) 1 := ⟨List.mem_of_getElem? (i := 431) (by decide +kernel), List.mem_of_getElem? (i := 7) (by decide +kernel), List.mem_of_getElem? (i := 432) (by decide +kernel), List.mem_of_getElem? (i := 41) (by decide +kernel), by decide +kernel⟩
theorem mw_X5_hazardsDemanded : MWV yX5_hazardsDemanded cX5_hazardsDemanded 6 (some .int) 1 := ⟨List.mem_of_getElem? (i := 427) (by decide +kernel), List.mem_of_getElem? (i := 6) (by decide +kernel), List.mem_of_getElem? (i := 428) (by decide +kernel), List.mem_of_getElem? (i := 41) (by decide +kernel), by decide +kernel⟩
theorem mw_X5_hazardsKept : MWV yX5_hazardsKept cX5_hazardsKept 6 (some .int) 2 := ⟨List.mem_of_getElem? (i := 464) (by decide +kernel), List.mem_of_getElem? (i := 10) (by decide +kernel), List.mem_of_getElem? (i := 465) (by decide +kernel), List.mem_of_getElem? (i := 41) (by decide +kernel), by decide +kernel⟩
theorem mw_X5_wayOf : MWV yX5_wayOf cX5_wayOf 3 (some .int) 2 := ⟨List.mem_of_getElem? (i := 450) (by decide +kernel), List.mem_of_getElem? (i := 9) (by decide +kernel), List.mem_of_getElem? (i := 451) (by decide +kernel), List.mem_of_getElem? (i := 41) (by decide +kernel), by decide +kernel⟩
theorem mw_X5_firstLack : MWV yX5_firstLack cX5_firstLack 4 (some .int) 1 := ⟨List.mem_of_getElem? (i := 423) (by decide +kernel), List.mem_of_getElem? (i := 5) (by decide +kernel), List.mem_of_getElem? (i := 424) (by decide +kernel), List.mem_of_getElem? (i := 41) (by decide +kernel), by decide +kernel⟩
theorem mw_X5_holdsCertificate : MWV yX5_holdsCertificate cX5_holdsCertificate 3 (some .boolean) 1 := ⟨List.mem_of_getElem? (i := 472) (by decide +kernel), List.mem_of_getElem? (i := 11) (by decide +kernel), List.mem_of_getElem? (i := 473) (by decide +kernel), List.mem_of_getElem? (i := 41) (by decide +kernel), by decide +kernel⟩
theorem mw_X5_addBatch : MWV yX5_addBatch cX5_addBatch 4 (some .int) 3 := ⟨List.mem_of_getElem? (i := 568) (by decide +kernel), List.mem_of_getElem? (i := 14) (by decide +kernel), List.mem_of_getElem? (i := 569) (by decide +kernel), List.mem_of_getElem? (i := 41) (by decide +kernel), by decide +kernel⟩
theorem mw_X5_unitsOnMarket : MWV yX5_unitsOnMarket cX5_unitsOnMarket 7 (some .int) 1 := ⟨List.mem_of_getElem? (i := 719) (by decide +kernel), List.mem_of_getElem? (i := 17) (by decide +kernel), List.mem_of_getElem? (i := 720) (by decide +kernel), List.mem_of_getElem? (i := 41) (by decide +kernel), by decide +kernel⟩
theorem mw_X6_init : MWI yX6_init cX6_init 1 0 := ⟨List.mem_of_getElem? (i := 746) (by decide +kernel), List.mem_of_getElem? (i := 747) (by decide +kernel), List.mem_of_getElem? (i := 42) (by decide +kernel), rfl, by decide +kernel⟩
theorem mw_X6_thrown : MWV yX6_thrown cX6_thrown 1 (some .int) 0 := ⟨List.mem_of_getElem? (i := 866) (by decide +kernel), List.mem_of_getElem? (i := 867) (by decide +kernel), List.mem_of_getElem? (i := 868) (by decide +kernel), List.mem_of_getElem? (i := 42) (by decide +kernel), by decide +kernel⟩
theorem mw_X6_in : MWS yX6_in cX6_in 3 (some .boolean) 3 := ⟨List.mem_of_getElem? (i := 874) (by decide +kernel), List.mem_of_getElem? (i := 875) (by decide +kernel), List.mem_of_getElem? (i := 42) (by decide +kernel), by decide +kernel⟩
theorem mw_X6_refused : MWV yX6_refused cX6_refused 2 (some .boolean) 1 := ⟨List.mem_of_getElem? (i := 878) (by decide +kernel), List.mem_of_getElem? (i := 18) (by decide +kernel), List.mem_of_getElem? (i := 879) (by decide +kernel), List.mem_of_getElem? (i := 42) (by decide +kernel), by decide +kernel⟩
theorem mw_X6_isAct : MWV yX6_isAct cX6_isAct 2 (some .boolean) 1 := ⟨List.mem_of_getElem? (i := 886) (by decide +kernel), List.mem_of_getElem? (i := 19) (by decide +kernel), List.mem_of_getElem? (i := 887) (by decide +kernel), List.mem_of_getElem? (i := 42) (by decide +kernel), by decide +kernel⟩
theorem mw_X6_isStandard : MWV yX6_isStandard cX6_isStandard 2 (some .boolean) 1 := ⟨List.mem_of_getElem? (i := 903) (by decide +kernel), List.mem_of_getElem? (i := 21) (by decide +kernel), List.mem_of_getElem? (i := 904) (by decide +kernel), List.mem_of_getElem? (i := 42) (by decide +kernel), by decide +kernel⟩
theorem mw_X6_isProduct : MWV yX6_isProduct cX6_isProduct 2 (some .boolean) 1 := ⟨List.mem_of_getElem? (i := 919) (by decide +kernel), List.mem_of_getElem? (i := 22) (by decide +kernel), List.mem_of_getElem? (i := 920) (by decide +kernel), List.mem_of_getElem? (i := 42) (by decide +kernel), by decide +kernel⟩
theorem mw_X6_isBody : MWV yX6_isBody cX6_isBody 2 (some .boolean) 1 := ⟨List.mem_of_getElem? (i := 998) (by decide +kernel), List.mem_of_getElem? (i := 35) (by decide +kernel), List.mem_of_getElem? (i := 999) (by decide +kernel), List.mem_of_getElem? (i := 42) (by decide +kernel), by decide +kernel⟩
theorem mw_X6_isBatch : MWV yX6_isBatch cX6_isBatch 2 (some .boolean) 1 := ⟨List.mem_of_getElem? (i := 1031) (by decide +kernel), List.mem_of_getElem? (i := 37) (by decide +kernel), List.mem_of_getElem? (i := 1032) (by decide +kernel), List.mem_of_getElem? (i := 42) (by decide +kernel), by decide +kernel⟩
theorem mw_X6_bits : MWS yX6_bits cX6_bits 3 (some .int) 1 := ⟨List.mem_of_getElem? (i := 946) (by decide +kernel), List.mem_of_getElem? (i := 947) (by decide +kernel), List.mem_of_getElem? (i := 42) (by decide +kernel), by decide +kernel⟩
theorem mw_X6_act : MWV yX6_act cX6_act 6 (some .int) 4 := ⟨List.mem_of_getElem? (i := 870) (by decide +kernel), List.mem_of_getElem? (i := 871) (by decide +kernel), List.mem_of_getElem? (i := 872) (by decide +kernel), List.mem_of_getElem? (i := 42) (by decide +kernel), by decide +kernel⟩
theorem mw_X6_isAbove : MWV yX6_isAbove cX6_isAbove 6 (some .boolean) 2 := ⟨List.mem_of_getElem? (i := 890) (by decide +kernel), List.mem_of_getElem? (i := 20) (by decide +kernel), List.mem_of_getElem? (i := 891) (by decide +kernel), List.mem_of_getElem? (i := 42) (by decide +kernel), by decide +kernel⟩
theorem mw_X6_special : MWV yX6_special cX6_special 5 (some .boolean) 2 := ⟨List.mem_of_getElem? (i := 881) (by decide +kernel), List.mem_of_getElem? (i := 882) (by decide +kernel), List.mem_of_getElem? (i := 883) (by decide +kernel), List.mem_of_getElem? (i := 42) (by decide +kernel), by decide +kernel⟩
theorem mw_X6_standard : MWV yX6_standard cX6_standard 3 (some .int) 2 := ⟨List.mem_of_getElem? (i := 893) (by decide +kernel), List.mem_of_getElem? (i := 894) (by decide +kernel), List.mem_of_getElem? (i := 895) (by decide +kernel), List.mem_of_getElem? (i := 42) (by decide +kernel), by decide +kernel⟩
theorem mw_X6_withdraw : MWV yX6_withdraw cX6_withdraw 4 (some .int) 2 := ⟨List.mem_of_getElem? (i := 898) (by decide +kernel), List.mem_of_getElem? (i := 899) (by decide +kernel), List.mem_of_getElem? (i := 900) (by decide +kernel), List.mem_of_getElem? (i := 42) (by decide +kernel), by decide +kernel⟩
theorem mw_X6_restrict : MWV yX6_restrict cX6_restrict 3 (some .int) 2 := ⟨List.mem_of_getElem? (i := 906) (by decide +kernel), List.mem_of_getElem? (i := 907) (by decide +kernel), List.mem_of_getElem? (i := 908) (by decide +kernel), List.mem_of_getElem? (i := 42) (by decide +kernel), by decide +kernel⟩
theorem mw_X6_product : MWV yX6_product cX6_product 2 (some .int) 1 := ⟨List.mem_of_getElem? (i := 910) (by decide +kernel), List.mem_of_getElem? (i := 911) (by decide +kernel), List.mem_of_getElem? (i := 912) (by decide +kernel), List.mem_of_getElem? (i := 42) (by decide +kernel), by decide +kernel⟩
theorem mw_X6_nextVersion : MWV yX6_nextVersion cX6_nextVersion 3 none 1 := ⟨List.mem_of_getElem? (i := 923) (by decide +kernel), List.mem_of_getElem? (i := 23) (by decide +kernel), List.mem_of_getElem? (i := 924) (by decide +kernel), List.mem_of_getElem? (i := 42) (by decide +kernel), by decide +kernel⟩
theorem mw_X6_change : MWV yX6_change cX6_change 3 (some .int) 2 := ⟨List.mem_of_getElem? (i := 914) (by decide +kernel), List.mem_of_getElem? (i := 915) (by decide +kernel), List.mem_of_getElem? (i := 916) (by decide +kernel), List.mem_of_getElem? (i := 42) (by decide +kernel), by decide +kernel⟩
theorem mw_X6_risk : MWV yX6_risk cX6_risk 7 (some .int) 4 := ⟨List.mem_of_getElem? (i := 926) (by decide +kernel), List.mem_of_getElem? (i := 927) (by decide +kernel), List.mem_of_getElem? (i := 928) (by decide +kernel), List.mem_of_getElem? (i := 42) (by decide +kernel), by decide +kernel⟩
theorem mw_X6_follow : MWV yX6_follow cX6_follow 6 (some .int) 3 := ⟨List.mem_of_getElem? (i := 930) (by decide +kernel), List.mem_of_getElem? (i := 931) (by decide +kernel), List.mem_of_getElem? (i := 932) (by decide +kernel), List.mem_of_getElem? (i := 42) (by decide +kernel), by decide +kernel⟩
theorem mw_X6_prove : MWV yX6_prove cX6_prove 3 (some .int) 2 := ⟨List.mem_of_getElem? (i := 934) (by decide +kernel), List.mem_of_getElem? (i := 935) (by decide +kernel), List.mem_of_getElem? (i := 936) (by decide +kernel), List.mem_of_getElem? (i := 42) (by decide +kernel), by decide +kernel⟩
theorem mw_X6_isFor : MWV yX6_isFor cX6_isFor 3 (some .boolean) 2 := ⟨List.mem_of_getElem? (i := 958) (by decide +kernel), List.mem_of_getElem? (i := 27) (by decide +kernel), List.mem_of_getElem? (i := 959) (by decide +kernel), List.mem_of_getElem? (i := 42) (by decide +kernel), by decide +kernel⟩
theorem mw_X6_doesApply : MWV yX6_doesApply cX6_doesApply 5 (some .boolean) 2 := ⟨List.mem_of_getElem? (i := 954) (by decide +kernel), List.mem_of_getElem? (i := 26) (by decide +kernel), List.mem_of_getElem? (i := 955) (by decide +kernel), List.mem_of_getElem? (i := 42) (by decide +kernel), by decide +kernel⟩
theorem mw_X6_applying : MWV yX6_applying cX6_applying 4 (some .int) 1 := ⟨List.mem_of_getElem? (i := 986) (by decide +kernel), List.mem_of_getElem? (i := 34) (by decide +kernel), List.mem_of_getElem? (i := 987) (by decide +kernel), List.mem_of_getElem? (i := 42) (by decide +kernel), by decide +kernel⟩
theorem mw_X6_demandsOf : MWV yX6_demandsOf cX6_demandsOf 4 (some .int) 1 := ⟨List.mem_of_getElem? (i := 950) (by decide +kernel), List.mem_of_getElem? (i := 25) (by decide +kernel), List.mem_of_getElem? (i := 951) (by decide +kernel), List.mem_of_getElem? (i := 42) (by decide +kernel), by decide +kernel⟩
theorem mw_X6_shown : MWV yX6_shown cX6_shown 4 (some .int) 1 := ⟨List.mem_of_getElem? (i := 970) (by decide +kernel), List.mem_of_getElem? (i := 30) (by decide +kernel), List.mem_of_getElem? (i := 971) (by decide +kernel), List.mem_of_getElem? (i := 42) (by decide +kernel), by decide +kernel⟩
theorem mw_X6_lowOf : MWV yX6_lowOf cX6_lowOf 4 (some .int) 1 := ⟨List.mem_of_getElem? (i := 962) (by decide +kernel), List.mem_of_getElem? (i := 28) (by decide +kernel), List.mem_of_getElem? (i := 963) (by decide +kernel), List.mem_of_getElem? (i := 42) (by decide +kernel), by decide +kernel⟩
theorem mw_X6_keptOf : MWV yX6_keptOf cX6_keptOf 2 (some .int) 1 := ⟨List.mem_of_getElem? (i := 966) (by decide +kernel), List.mem_of_getElem? (i := 29) (by decide +kernel), List.mem_of_getElem? (i := 967) (by decide +kernel), List.mem_of_getElem? (i := 42) (by decide +kernel), by decide +kernel⟩
theorem mw_X6_wayOf : MWV yX6_wayOf cX6_wayOf 6 (some .int) 1 := ⟨List.mem_of_getElem? (i := 974) (by decide +kernel), List.mem_of_getElem? (i := 31) (by decide +kernel), List.mem_of_getElem? (i := 975) (by decide +kernel), List.mem_of_getElem? (i := 42) (by decide +kernel), by decide +kernel⟩
theorem mw_X6_hasScope : MWV yX6_hasScope cX6_hasScope 3 (some .boolean) 2 := ⟨List.mem_of_getElem? (i := 982) (by decide +kernel), List.mem_of_getElem? (i := 33) (by decide +kernel), List.mem_of_getElem? (i := 983) (by decide +kernel), List.mem_of_getElem? (i := 42) (by decide +kernel), by decide +kernel⟩
theorem mw_X6_holds : MWV yX6_holds cX6_holds 3 (some .boolean) 1 := ⟨List.mem_of_getElem? (i := 978) (by decide +kernel), List.mem_of_getElem? (i := 32) (by decide +kernel), List.mem_of_getElem? (i := 979) (by decide +kernel), List.mem_of_getElem? (i := 42) (by decide +kernel), by decide +kernel⟩
theorem mw_X6_wantingOf : MWV yX6_wantingOf cX6_wantingOf 4 (some .int) 1 := ⟨List.mem_of_getElem? (i := 943) (by decide +kernel), List.mem_of_getElem? (i := 24) (by decide +kernel), List.mem_of_getElem? (i := 944) (by decide +kernel), List.mem_of_getElem? (i := 42) (by decide +kernel), by decide +kernel⟩
theorem mw_X6_declare : MWV yX6_declare cX6_declare 3 (some .int) 1 := ⟨List.mem_of_getElem? (i := 938) (by decide +kernel), List.mem_of_getElem? (i := 939) (by decide +kernel), List.mem_of_getElem? (i := 940) (by decide +kernel), List.mem_of_getElem? (i := 42) (by decide +kernel), by decide +kernel⟩
theorem mw_X6_body : MWV yX6_body cX6_body 2 (some .int) 1 := ⟨List.mem_of_getElem? (i := 989) (by decide +kernel), List.mem_of_getElem? (i := 990) (by decide +kernel), List.mem_of_getElem? (i := 991) (by decide +kernel), List.mem_of_getElem? (i := 42) (by decide +kernel), by decide +kernel⟩
theorem mw_X6_suspend : MWV yX6_suspend cX6_suspend 4 (some .boolean) 2 := ⟨List.mem_of_getElem? (i := 993) (by decide +kernel), List.mem_of_getElem? (i := 994) (by decide +kernel), List.mem_of_getElem? (i := 995) (by decide +kernel), List.mem_of_getElem? (i := 42) (by decide +kernel), by decide +kernel⟩
theorem mw_X6_certify : MWV yX6_certify cX6_certify 7 (some .int) 3 := ⟨List.mem_of_getElem? (i := 1001) (by decide +kernel), List.mem_of_getElem? (i := 1002) (by decide +kernel), List.mem_of_getElem? (i := 1003) (by decide +kernel), List.mem_of_getElem? (i := 42) (by decide +kernel), by decide +kernel⟩
theorem mw_X6_transfer : MWV yX6_transfer cX6_transfer 6 (some .int) 2 := ⟨List.mem_of_getElem? (i := 1005) (by decide +kernel), List.mem_of_getElem? (i := 1006) (by decide +kernel), List.mem_of_getElem? (i := 1007) (by decide +kernel), List.mem_of_getElem? (i := 42) (by decide +kernel), by decide +kernel⟩
theorem mw_X6_visit : MWV yX6_visit cX6_visit 4 (some .boolean) 2 := ⟨List.mem_of_getElem? (i := 1009) (by decide +kernel), List.mem_of_getElem? (i := 1010) (by decide +kernel), List.mem_of_getElem? (i := 1011) (by decide +kernel), List.mem_of_getElem? (i := 42) (by decide +kernel), by decide +kernel⟩
theorem mw_X6_arrives : MWV yX6_arrives cX6_arrives 4 (some .int) 3 := ⟨List.mem_of_getElem? (i := 1018) (by decide +kernel), List.mem_of_getElem? (i := 36) (by decide +kernel), List.mem_of_getElem? (i := 1019) (by decide +kernel), List.mem_of_getElem? (i := 42) (by decide +kernel), by decide +kernel⟩
theorem mw_X6_place : MWV yX6_place cX6_place 5 (some .int) 2 := ⟨List.mem_of_getElem? (i := 1013) (by decide +kernel), List.mem_of_getElem? (i := 1014) (by decide +kernel), List.mem_of_getElem? (i := 1015) (by decide +kernel), List.mem_of_getElem? (i := 42) (by decide +kernel), by decide +kernel⟩
theorem mw_X6_post : MWV yX6_post cX6_post 4 (some .int) 2 := ⟨List.mem_of_getElem? (i := 1021) (by decide +kernel), List.mem_of_getElem? (i := 1022) (by decide +kernel), List.mem_of_getElem? (i := 1023) (by decide +kernel), List.mem_of_getElem? (i := 42) (by decide +kernel), by decide +kernel⟩
theorem mw_X6_sample : MWV yX6_sample cX6_sample 6 (some .int) 4 := ⟨List.mem_of_getElem? (i := 1025) (by decide +kernel), List.mem_of_getElem? (i := 1026) (by decide +kernel), List.mem_of_getElem? (i := 1027) (by decide +kernel), List.mem_of_getElem? (i := 42) (by decide +kernel), by decide +kernel⟩
theorem mw_X6_levelOf : MWV yX6_levelOf cX6_levelOf 3 (some .int) 1 := ⟨List.mem_of_getElem? (i := 1039) (by decide +kernel), List.mem_of_getElem? (i := 38) (by decide +kernel), List.mem_of_getElem? (i := 1040) (by decide +kernel), List.mem_of_getElem? (i := 42) (by decide +kernel), by decide +kernel⟩
theorem mw_X6_event : MWV yX6_event cX6_event 4 (some .int) 3 := ⟨List.mem_of_getElem? (i := 1034) (by decide +kernel), List.mem_of_getElem? (i := 1035) (by decide +kernel), List.mem_of_getElem? (i := 1036) (by decide +kernel), List.mem_of_getElem? (i := 42) (by decide +kernel), by decide +kernel⟩
theorem mw_X6_recall : MWV yX6_recall cX6_recall 8 (some .int) 3 := ⟨List.mem_of_getElem? (i := 1042) (by decide +kernel), List.mem_of_getElem? (i := 1043) (by decide +kernel), List.mem_of_getElem? (i := 1044) (by decide +kernel), List.mem_of_getElem? (i := 42) (by decide +kernel), by decide +kernel⟩
theorem mw_X6_ban : MWV yX6_ban cX6_ban 5 (some .int) 3 := ⟨List.mem_of_getElem? (i := 1046) (by decide +kernel), List.mem_of_getElem? (i := 1047) (by decide +kernel), List.mem_of_getElem? (i := 1048) (by decide +kernel), List.mem_of_getElem? (i := 42) (by decide +kernel), by decide +kernel⟩
theorem mw_X6_pass : MWV yX6_pass cX6_pass 2 (some .int) 1 := ⟨List.mem_of_getElem? (i := 1050) (by decide +kernel), List.mem_of_getElem? (i := 1051) (by decide +kernel), List.mem_of_getElem? (i := 1052) (by decide +kernel), List.mem_of_getElem? (i := 42) (by decide +kernel), by decide +kernel⟩
theorem mw_X6_day : MWV yX6_day cX6_day 1 (some .int) 0 := ⟨List.mem_of_getElem? (i := 1054) (by decide +kernel), List.mem_of_getElem? (i := 1055) (by decide +kernel), List.mem_of_getElem? (i := 1056) (by decide +kernel), List.mem_of_getElem? (i := 42) (by decide +kernel), by decide +kernel⟩
theorem mw_X6_applies : MWV yX6_applies cX6_applies 3 (some .boolean) 2 := ⟨List.mem_of_getElem? (i := 1058) (by decide +kernel), List.mem_of_getElem? (i := 1059) (by decide +kernel), List.mem_of_getElem? (i := 1060) (by decide +kernel), List.mem_of_getElem? (i := 42) (by decide +kernel), by decide +kernel⟩
theorem mw_X6_demands : MWV yX6_demands cX6_demands 3 (some .int) 2 := ⟨List.mem_of_getElem? (i := 1062) (by decide +kernel), List.mem_of_getElem? (i := 1063) (by decide +kernel), List.mem_of_getElem? (i := 1064) (by decide +kernel), List.mem_of_getElem? (i := 42) (by decide +kernel), by decide +kernel⟩
theorem mw_X6_way : MWV yX6_way cX6_way 2 (some .int) 1 := ⟨List.mem_of_getElem? (i := 1066) (by decide +kernel), List.mem_of_getElem? (i := 1067) (by decide +kernel), List.mem_of_getElem? (i := 1068) (by decide +kernel), List.mem_of_getElem? (i := 42) (by decide +kernel), by decide +kernel⟩
theorem mw_X6_wanting : MWV yX6_wanting cX6_wanting 2 (some .int) 1 := ⟨List.mem_of_getElem? (i := 1070) (by decide +kernel), List.mem_of_getElem? (i := 1071) (by decide +kernel), List.mem_of_getElem? (i := 1072) (by decide +kernel), List.mem_of_getElem? (i := 42) (by decide +kernel), by decide +kernel⟩
theorem mw_X6_onMarket : MWV yX6_onMarket cX6_onMarket 4 (some .int) 1 := ⟨List.mem_of_getElem? (i := 1079) (by decide +kernel), List.mem_of_getElem? (i := 39) (by decide +kernel), List.mem_of_getElem? (i := 1080) (by decide +kernel), List.mem_of_getElem? (i := 42) (by decide +kernel), by decide +kernel⟩
theorem mw_X6_productOf : MWV yX6_productOf cX6_productOf 3 (some .int) 2 := ⟨List.mem_of_getElem? (i := 1074) (by decide +kernel), List.mem_of_getElem? (i := 1075) (by decide +kernel), List.mem_of_getElem? (i := 1076) (by decide +kernel), List.mem_of_getElem? (i := 42) (by decide +kernel), by decide +kernel⟩
theorem mw_X6_riskOf : MWV yX6_riskOf cX6_riskOf 4 (some .int) 3 := ⟨List.mem_of_getElem? (i := 1082) (by decide +kernel), List.mem_of_getElem? (i := 1083) (by decide +kernel), List.mem_of_getElem? (i := 1084) (by decide +kernel), List.mem_of_getElem? (i := 42) (by decide +kernel), by decide +kernel⟩
theorem mw_X6_batchOf : MWV yX6_batchOf cX6_batchOf 3 (some .int) 2 := ⟨List.mem_of_getElem? (i := 1086) (by decide +kernel), List.mem_of_getElem? (i := 1087) (by decide +kernel), List.mem_of_getElem? (i := 1088) (by decide +kernel), List.mem_of_getElem? (i := 42) (by decide +kernel), by decide +kernel⟩
theorem mw_X6_wantingAnew : MWV yX6_wantingAnew cX6_wantingAnew 2 (some .int) 1 := ⟨List.mem_of_getElem? (i := 1090) (by decide +kernel), List.mem_of_getElem? (i := 1091) (by decide +kernel), List.mem_of_getElem? (i := 1092) (by decide +kernel), List.mem_of_getElem? (i := 42) (by decide +kernel), by decide +kernel⟩
theorem mw_L_act : MWH yL_act cL_act 7 (some .int) [(0, 14, 17, 13), (0, 14, 21, 15)] 6 := ⟨List.mem_of_getElem? (i := 113) (by decide +kernel), List.mem_of_getElem? (i := 114) (by decide +kernel), List.mem_of_getElem? (i := 40) (by decide +kernel), by decide +kernel⟩
theorem mw_L_special : MWH yL_special cL_special 5 (some .int) [(0, 17, 20, 21), (0, 17, 24, 13), (0, 17, 28, 15)] 4 := ⟨List.mem_of_getElem? (i := 231) (by decide +kernel), List.mem_of_getElem? (i := 232) (by decide +kernel), List.mem_of_getElem? (i := 40) (by decide +kernel), by decide +kernel⟩
theorem mw_L_standard : MWH yL_standard cL_standard 5 (some .int) [(0, 10, 13, 13), (0, 10, 17, 15)] 4 := ⟨List.mem_of_getElem? (i := 268) (by decide +kernel), List.mem_of_getElem? (i := 269) (by decide +kernel), List.mem_of_getElem? (i := 40) (by decide +kernel), by decide +kernel⟩
theorem mw_L_withdraw : MWH yL_withdraw cL_withdraw 5 (some .int) [(0, 10, 13, 21), (0, 10, 17, 13)] 4 := ⟨List.mem_of_getElem? (i := 293) (by decide +kernel), List.mem_of_getElem? (i := 294) (by decide +kernel), List.mem_of_getElem? (i := 40) (by decide +kernel), by decide +kernel⟩
theorem mw_L_restrict : MWH yL_restrict cL_restrict 5 (some .int) [(0, 10, 13, 21), (0, 10, 17, 13)] 4 := ⟨List.mem_of_getElem? (i := 305) (by decide +kernel), List.mem_of_getElem? (i := 306) (by decide +kernel), List.mem_of_getElem? (i := 40) (by decide +kernel), by decide +kernel⟩
theorem mw_L_product : MWH yL_product cL_product 4 (some .int) [(0, 9, 12, 13), (0, 9, 15, 15)] 3 := ⟨List.mem_of_getElem? (i := 312) (by decide +kernel), List.mem_of_getElem? (i := 313) (by decide +kernel), List.mem_of_getElem? (i := 40) (by decide +kernel), by decide +kernel⟩
theorem mw_L_change : MWH yL_change cL_change 5 (some .int) [(0, 10, 13, 21), (0, 10, 17, 13)] 4 := ⟨List.mem_of_getElem? (i := 370) (by decide +kernel), List.mem_of_getElem? (i := 371) (by decide +kernel), List.mem_of_getElem? (i := 40) (by decide +kernel), by decide +kernel⟩
theorem mw_L_risk : MWH yL_risk cL_risk 7 (some .int) [(0, 14, 17, 21), (0, 14, 21, 13)] 6 := ⟨List.mem_of_getElem? (i := 390) (by decide +kernel), List.mem_of_getElem? (i := 391) (by decide +kernel), List.mem_of_getElem? (i := 40) (by decide +kernel), by decide +kernel⟩
theorem mw_L_follow : MWH yL_follow cL_follow 6 (some .int) [(0, 12, 15, 21), (0, 12, 19, 13)] 5 := ⟨List.mem_of_getElem? (i := 401) (by decide +kernel), List.mem_of_getElem? (i := 402) (by decide +kernel), List.mem_of_getElem? (i := 40) (by decide +kernel), by decide +kernel⟩
theorem mw_L_prove : MWH yL_prove cL_prove 5 (some .int) [(0, 10, 13, 21), (0, 10, 17, 13)] 4 := ⟨List.mem_of_getElem? (i := 408) (by decide +kernel), List.mem_of_getElem? (i := 409) (by decide +kernel), List.mem_of_getElem? (i := 40) (by decide +kernel), by decide +kernel⟩
theorem mw_L_declare : MWH yL_declare cL_declare 4 (some .int) [(0, 9, 12, 21), (0, 9, 15, 15)] 3 := ⟨List.mem_of_getElem? (i := 415) (by decide +kernel), List.mem_of_getElem? (i := 416) (by decide +kernel), List.mem_of_getElem? (i := 40) (by decide +kernel), by decide +kernel⟩
theorem mw_L_body : MWH yL_body cL_body 4 (some .int) [(0, 9, 12, 13), (0, 9, 15, 15)] 3 := ⟨List.mem_of_getElem? (i := 492) (by decide +kernel), List.mem_of_getElem? (i := 493) (by decide +kernel), List.mem_of_getElem? (i := 40) (by decide +kernel), by decide +kernel⟩
theorem mw_L_suspend : MWH yL_suspend cL_suspend 5 (some .int) [(0, 17, 20, 21)] 4 := ⟨List.mem_of_getElem? (i := 517) (by decide +kernel), List.mem_of_getElem? (i := 518) (by decide +kernel), List.mem_of_getElem? (i := 40) (by decide +kernel), by decide +kernel⟩
theorem mw_L_certify : MWH yL_certify cL_certify 6 (some .int) [(0, 12, 15, 21), (0, 12, 19, 13), (0, 12, 23, 15)] 5 := ⟨List.mem_of_getElem? (i := 530) (by decide +kernel), List.mem_of_getElem? (i := 531) (by decide +kernel), List.mem_of_getElem? (i := 40) (by decide +kernel), by decide +kernel⟩
theorem mw_L_transfer : MWH yL_transfer cL_transfer 5 (some .int) [(0, 10, 13, 21), (0, 10, 17, 15)] 4 := ⟨List.mem_of_getElem? (i := 543) (by decide +kernel), List.mem_of_getElem? (i := 544) (by decide +kernel), List.mem_of_getElem? (i := 40) (by decide +kernel), by decide +kernel⟩
theorem mw_L_visit : MWH yL_visit cL_visit 5 (some .int) [(0, 17, 20, 21)] 4 := ⟨List.mem_of_getElem? (i := 551) (by decide +kernel), List.mem_of_getElem? (i := 552) (by decide +kernel), List.mem_of_getElem? (i := 40) (by decide +kernel), by decide +kernel⟩
theorem mw_L_place : MWH yL_place cL_place 5 (some .int) [(0, 10, 13, 21), (0, 10, 17, 13), (0, 10, 21, 15)] 4 := ⟨List.mem_of_getElem? (i := 559) (by decide +kernel), List.mem_of_getElem? (i := 560) (by decide +kernel), List.mem_of_getElem? (i := 40) (by decide +kernel), by decide +kernel⟩
theorem mw_L_post : MWH yL_post cL_post 5 (some .int) [(0, 10, 13, 21), (0, 10, 17, 13), (0, 10, 21, 15)] 4 := ⟨List.mem_of_getElem? (i := 614) (by decide +kernel), List.mem_of_getElem? (i := 615) (by decide +kernel), List.mem_of_getElem? (i := 40) (by decide +kernel), by decide +kernel⟩
theorem mw_L_sample : MWH yL_sample cL_sample 7 (some .int) [(0, 14, 17, 21), (0, 14, 21, 13)] 6 := ⟨List.mem_of_getElem? (i := 621) (by decide +kernel), List.mem_of_getElem? (i := 622) (by decide +kernel), List.mem_of_getElem? (i := 40) (by decide +kernel), by decide +kernel⟩
theorem mw_L_event : MWH yL_event cL_event 6 (some .int) [(0, 12, 15, 21), (0, 12, 19, 13)] 5 := ⟨List.mem_of_getElem? (i := 634) (by decide +kernel), List.mem_of_getElem? (i := 635) (by decide +kernel), List.mem_of_getElem? (i := 40) (by decide +kernel), by decide +kernel⟩
theorem mw_L_recall : MWH yL_recall cL_recall 6 (some .int) [(0, 12, 15, 21), (0, 12, 19, 13)] 5 := ⟨List.mem_of_getElem? (i := 655) (by decide +kernel), List.mem_of_getElem? (i := 656) (by decide +kernel), List.mem_of_getElem? (i := 40) (by decide +kernel), by decide +kernel⟩
theorem mw_L_ban : MWH yL_ban cL_ban 6 (some .int) [(0, 12, 15, 21)] 5 := ⟨List.mem_of_getElem? (i := 667) (by decide +kernel), List.mem_of_getElem? (i := 668) (by decide +kernel), List.mem_of_getElem? (i := 40) (by decide +kernel), by decide +kernel⟩
theorem mw_L_pass : MWH yL_pass cL_pass 4 (some .int) [(0, 9, 12, 13), (0, 9, 15, 15)] 3 := ⟨List.mem_of_getElem? (i := 675) (by decide +kernel), List.mem_of_getElem? (i := 676) (by decide +kernel), List.mem_of_getElem? (i := 40) (by decide +kernel), by decide +kernel⟩
theorem mw_L_applies : MWH yL_applies cL_applies 5 (some .int) [(0, 17, 20, 21)] 4 := ⟨List.mem_of_getElem? (i := 683) (by decide +kernel), List.mem_of_getElem? (i := 684) (by decide +kernel), List.mem_of_getElem? (i := 40) (by decide +kernel), by decide +kernel⟩
theorem mw_L_demands : MWH yL_demands cL_demands 5 (some .int) [(0, 10, 13, 21)] 4 := ⟨List.mem_of_getElem? (i := 690) (by decide +kernel), List.mem_of_getElem? (i := 691) (by decide +kernel), List.mem_of_getElem? (i := 40) (by decide +kernel), by decide +kernel⟩
theorem mw_L_way : MWH yL_way cL_way 4 (some .int) [(0, 9, 12, 21)] 3 := ⟨List.mem_of_getElem? (i := 697) (by decide +kernel), List.mem_of_getElem? (i := 698) (by decide +kernel), List.mem_of_getElem? (i := 40) (by decide +kernel), by decide +kernel⟩
theorem mw_L_wanting : MWH yL_wanting cL_wanting 4 (some .int) [(0, 9, 12, 21)] 3 := ⟨List.mem_of_getElem? (i := 704) (by decide +kernel), List.mem_of_getElem? (i := 705) (by decide +kernel), List.mem_of_getElem? (i := 40) (by decide +kernel), by decide +kernel⟩
theorem mw_L_productOf : MWH yL_productOf cL_productOf 5 (some .int) [(0, 10, 13, 21), (0, 10, 17, 13)] 4 := ⟨List.mem_of_getElem? (i := 711) (by decide +kernel), List.mem_of_getElem? (i := 712) (by decide +kernel), List.mem_of_getElem? (i := 40) (by decide +kernel), by decide +kernel⟩
theorem mw_L_riskOf : MWH yL_riskOf cL_riskOf 6 (some .int) [(0, 12, 15, 21)] 5 := ⟨List.mem_of_getElem? (i := 723) (by decide +kernel), List.mem_of_getElem? (i := 724) (by decide +kernel), List.mem_of_getElem? (i := 40) (by decide +kernel), by decide +kernel⟩
theorem mw_L_batchOf : MWH yL_batchOf cL_batchOf 5 (some .int) [(0, 10, 13, 21), (0, 10, 17, 13)] 4 := ⟨List.mem_of_getElem? (i := 730) (by decide +kernel), List.mem_of_getElem? (i := 731) (by decide +kernel), List.mem_of_getElem? (i := 40) (by decide +kernel), by decide +kernel⟩
theorem mw_L_wantingAnew : MWH yL_wantingAnew cL_wantingAnew 4 (some .int) [(0, 9, 12, 21)] 3 := ⟨List.mem_of_getElem? (i := 737) (by decide +kernel), List.mem_of_getElem? (i := 738) (by decide +kernel), List.mem_of_getElem? (i := 40) (by decide +kernel), by decide +kernel⟩
def yBC : MethodName := ⟨"java/lang/Integer", "bitCount", "(I)I"⟩
abbrev cBC : ByteArray := prog_13_method_49_code
theorem mw_BC : MWS yBC cBC 1 (some .int) 1 := ⟨List.mem_of_getElem? (i := 453) (by decide +kernel), List.mem_of_getElem? (i := 454) (by decide +kernel), List.mem_of_getElem? (i := 52) (by decide +kernel), by decide +kernel⟩
theorem ml_X5_1 : Cond.methodLink RX5 1 objectInit ∈ lw_tbl := List.mem_of_getElem? (i := 61) (by decide +kernel)
theorem ml_X5_39 : Cond.methodLink RX5 39 yX5_checkRange ∈ lw_tbl := List.mem_of_getElem? (i := 121) (by decide +kernel)
theorem ml_X5_54 : Cond.methodLink RX5 54 yX0_init ∈ lw_tbl := List.mem_of_getElem? (i := 209) (by decide +kernel)
theorem ml_X5_57 : Cond.methodLink RX5 57 yX5_actAt ∈ lw_tbl := List.mem_of_getElem? (i := 238) (by decide +kernel)
theorem ml_X5_66 : Cond.methodLink RX5 66 yX5_actsMoreSpecialThan ∈ lw_tbl := List.mem_of_getElem? (i := 259) (by decide +kernel)
theorem ml_X5_70 : Cond.methodLink RX5 70 yX5_hasBit ∈ lw_tbl := List.mem_of_getElem? (i := 263) (by decide +kernel)
theorem ml_X5_84 : Cond.methodLink RX5 84 yX4_init ∈ lw_tbl := List.mem_of_getElem? (i := 276) (by decide +kernel)
theorem ml_X5_87 : Cond.methodLink RX5 87 yX5_standardAt ∈ lw_tbl := List.mem_of_getElem? (i := 299) (by decide +kernel)
theorem ml_X5_105 : Cond.methodLink RX5 105 yX3_init ∈ lw_tbl := List.mem_of_getElem? (i := 320) (by decide +kernel)
theorem ml_X5_108 : Cond.methodLink RX5 108 yX5_productAt ∈ lw_tbl := List.mem_of_getElem? (i := 376) (by decide +kernel)
theorem ml_X5_115 : Cond.methodLink RX5 115 yX3_startNextVersion ∈ lw_tbl := List.mem_of_getElem? (i := 381) (by decide +kernel)
theorem ml_X5_121 : Cond.methodLink RX5 121 yX5_checkHazard ∈ lw_tbl := List.mem_of_getElem? (i := 396) (by decide +kernel)
theorem ml_X5_137 : Cond.methodLink RX5 137 yX5_firstLack ∈ lw_tbl := List.mem_of_getElem? (i := 421) (by decide +kernel)
theorem ml_X5_151 : Cond.methodLink RX5 151 yX2_init ∈ lw_tbl := List.mem_of_getElem? (i := 500) (by decide +kernel)
theorem ml_X5_152 : Cond.methodLink RX5 152 yX5_bodyAt ∈ lw_tbl := List.mem_of_getElem? (i := 523) (by decide +kernel)
theorem ml_X5_156 : Cond.methodLink RX5 156 yX2_isSuspended ∈ lw_tbl := List.mem_of_getElem? (i := 528) (by decide +kernel)
theorem ml_X5_163 : Cond.methodLink RX5 163 yX5_checkMayCertify ∈ lw_tbl := List.mem_of_getElem? (i := 536) (by decide +kernel)
theorem ml_X5_184 : Cond.methodLink RX5 184 yX3_endCertificate ∈ lw_tbl := List.mem_of_getElem? (i := 557) (by decide +kernel)
theorem ml_X5_189 : Cond.methodLink RX5 189 yX5_addBatch ∈ lw_tbl := List.mem_of_getElem? (i := 566) (by decide +kernel)
theorem ml_X5_193 : Cond.methodLink RX5 193 yX5_batchAt ∈ lw_tbl := List.mem_of_getElem? (i := 627) (by decide +kernel)
theorem ml_X5_204 : Cond.methodLink RX5 204 Lib.Math.max.name ∈ lw_tbl := List.mem_of_getElem? (i := 640) (by decide +kernel)
theorem ml_X5_213 : Cond.methodLink RX5 213 yX1_alarmLevel ∈ lw_tbl := List.mem_of_getElem? (i := 643) (by decide +kernel)
theorem ml_X5_219 : Cond.methodLink RX5 219 yX1_isOnMarketOf ∈ lw_tbl := List.mem_of_getElem? (i := 662) (by decide +kernel)
theorem ml_X5_237 : Cond.methodLink RX5 237 yBC ∈ lw_tbl := List.mem_of_getElem? (i := 452) (by decide +kernel)
theorem ml_X5_245 : Cond.methodLink RX5 245 yX5_actsApplyingTo ∈ lw_tbl := List.mem_of_getElem? (i := 429) (by decide +kernel)
theorem ml_X5_248 : Cond.methodLink RX5 248 yX5_hazardsDemanded ∈ lw_tbl := List.mem_of_getElem? (i := 425) (by decide +kernel)
theorem ml_X5_251 : Cond.methodLink RX5 251 yX5_hazardsKept ∈ lw_tbl := List.mem_of_getElem? (i := 462) (by decide +kernel)
theorem ml_X5_255 : Cond.methodLink RX5 255 yX5_wayOf ∈ lw_tbl := List.mem_of_getElem? (i := 448) (by decide +kernel)
theorem ml_X5_258 : Cond.methodLink RX5 258 yX5_unitsOnMarket ∈ lw_tbl := List.mem_of_getElem? (i := 717) (by decide +kernel)
theorem ml_X5_287 : Cond.methodLink RX5 287 yX2_hasInScope ∈ lw_tbl := List.mem_of_getElem? (i := 474) (by decide +kernel)
theorem ml_X5_292 : Cond.methodLink RX5 292 yX0_isForByItself ∈ lw_tbl := List.mem_of_getElem? (i := 437) (by decide +kernel)
theorem ml_X5_295 : Cond.methodLink RX5 295 yX5_actsForByThemselves ∈ lw_tbl := List.mem_of_getElem? (i := 433) (by decide +kernel)
theorem ml_X5_301 : Cond.methodLink RX5 301 yX3_hazardsBeforeAbove ∈ lw_tbl := List.mem_of_getElem? (i := 441) (by decide +kernel)
theorem ml_X5_304 : Cond.methodLink RX5 304 yX4_isListedOn ∈ lw_tbl := List.mem_of_getElem? (i := 466) (by decide +kernel)
theorem ml_X5_307 : Cond.methodLink RX5 307 yX3_hazardsAfterAbove ∈ lw_tbl := List.mem_of_getElem? (i := 458) (by decide +kernel)
theorem ml_X5_310 : Cond.methodLink RX5 310 yX5_holdsCertificate ∈ lw_tbl := List.mem_of_getElem? (i := 470) (by decide +kernel)
theorem ml_X5_314 : Cond.methodLink RX5 314 yX3_isVisitCounted ∈ lw_tbl := List.mem_of_getElem? (i := 486) (by decide +kernel)
theorem ml_X5_317 : Cond.methodLink RX5 317 yX2_isCertificateUpheld ∈ lw_tbl := List.mem_of_getElem? (i := 478) (by decide +kernel)
theorem ml_X5_325 : Cond.methodLink RX5 325 yX1_init ∈ lw_tbl := List.mem_of_getElem? (i := 572) (by decide +kernel)
theorem ml_X0_1 : Cond.methodLink RX0 1 objectInit ∈ lw_tbl := List.mem_of_getElem? (i := 212) (by decide +kernel)
theorem ml_X1_3 : Cond.methodLink RX1 3 objectInit ∈ lw_tbl := List.mem_of_getElem? (i := 575) (by decide +kernel)
theorem ml_X1_36 : Cond.methodLink RX1 36 yX1_alarmByHarm ∈ lw_tbl := List.mem_of_getElem? (i := 647) (by decide +kernel)
theorem ml_X2_3 : Cond.methodLink RX2 3 objectInit ∈ lw_tbl := List.mem_of_getElem? (i := 503) (by decide +kernel)
theorem ml_X2_21 : Cond.methodLink RX2 21 yX2_isSuspended ∈ lw_tbl := List.mem_of_getElem? (i := 482) (by decide +kernel)
theorem ml_X3_3 : Cond.methodLink RX3 3 objectInit ∈ lw_tbl := List.mem_of_getElem? (i := 323) (by decide +kernel)
theorem ml_X3_40 : Cond.methodLink RX3 40 yX3_endCertificate ∈ lw_tbl := List.mem_of_getElem? (i := 385) (by decide +kernel)
theorem ml_X3_47 : Cond.methodLink RX3 47 yX3_hazardsAbove ∈ lw_tbl := List.mem_of_getElem? (i := 445) (by decide +kernel)
theorem ml_X4_3 : Cond.methodLink RX4 3 objectInit ∈ lw_tbl := List.mem_of_getElem? (i := 279) (by decide +kernel)
theorem ml_L_7 : Cond.methodLink RL 7 yX5_act ∈ lw_tbl := List.mem_of_getElem? (i := 117) (by decide +kernel)
theorem ml_L_17 : Cond.methodLink RL 17 yX5_special ∈ lw_tbl := List.mem_of_getElem? (i := 234) (by decide +kernel)
theorem ml_L_23 : Cond.methodLink RL 23 yX5_standard ∈ lw_tbl := List.mem_of_getElem? (i := 270) (by decide +kernel)
theorem ml_L_27 : Cond.methodLink RL 27 yX5_withdraw ∈ lw_tbl := List.mem_of_getElem? (i := 295) (by decide +kernel)
theorem ml_L_30 : Cond.methodLink RL 30 yX5_restrict ∈ lw_tbl := List.mem_of_getElem? (i := 307) (by decide +kernel)
theorem ml_L_33 : Cond.methodLink RL 33 yX5_product ∈ lw_tbl := List.mem_of_getElem? (i := 314) (by decide +kernel)
theorem ml_L_37 : Cond.methodLink RL 37 yX5_change ∈ lw_tbl := List.mem_of_getElem? (i := 372) (by decide +kernel)
theorem ml_L_40 : Cond.methodLink RL 40 yX5_risk ∈ lw_tbl := List.mem_of_getElem? (i := 392) (by decide +kernel)
theorem ml_L_43 : Cond.methodLink RL 43 yX5_follow ∈ lw_tbl := List.mem_of_getElem? (i := 403) (by decide +kernel)
theorem ml_L_47 : Cond.methodLink RL 47 yX5_prove ∈ lw_tbl := List.mem_of_getElem? (i := 410) (by decide +kernel)
theorem ml_L_50 : Cond.methodLink RL 50 yX5_declare ∈ lw_tbl := List.mem_of_getElem? (i := 417) (by decide +kernel)
theorem ml_L_53 : Cond.methodLink RL 53 yX5_body ∈ lw_tbl := List.mem_of_getElem? (i := 494) (by decide +kernel)
theorem ml_L_56 : Cond.methodLink RL 56 yX5_suspend ∈ lw_tbl := List.mem_of_getElem? (i := 519) (by decide +kernel)
theorem ml_L_60 : Cond.methodLink RL 60 yX5_certify ∈ lw_tbl := List.mem_of_getElem? (i := 532) (by decide +kernel)
theorem ml_L_63 : Cond.methodLink RL 63 yX5_transfer ∈ lw_tbl := List.mem_of_getElem? (i := 545) (by decide +kernel)
theorem ml_L_66 : Cond.methodLink RL 66 yX5_visit ∈ lw_tbl := List.mem_of_getElem? (i := 553) (by decide +kernel)
theorem ml_L_69 : Cond.methodLink RL 69 yX5_place ∈ lw_tbl := List.mem_of_getElem? (i := 561) (by decide +kernel)
theorem ml_L_72 : Cond.methodLink RL 72 yX5_post ∈ lw_tbl := List.mem_of_getElem? (i := 616) (by decide +kernel)
theorem ml_L_75 : Cond.methodLink RL 75 yX5_sample ∈ lw_tbl := List.mem_of_getElem? (i := 623) (by decide +kernel)
theorem ml_L_78 : Cond.methodLink RL 78 yX5_event ∈ lw_tbl := List.mem_of_getElem? (i := 636) (by decide +kernel)
theorem ml_L_81 : Cond.methodLink RL 81 yX5_recall ∈ lw_tbl := List.mem_of_getElem? (i := 657) (by decide +kernel)
theorem ml_L_84 : Cond.methodLink RL 84 yX5_ban ∈ lw_tbl := List.mem_of_getElem? (i := 669) (by decide +kernel)
theorem ml_L_88 : Cond.methodLink RL 88 yX5_pass ∈ lw_tbl := List.mem_of_getElem? (i := 677) (by decide +kernel)
theorem ml_L_91 : Cond.methodLink RL 91 yX5_applies ∈ lw_tbl := List.mem_of_getElem? (i := 685) (by decide +kernel)
theorem ml_L_94 : Cond.methodLink RL 94 yX5_demands ∈ lw_tbl := List.mem_of_getElem? (i := 692) (by decide +kernel)
theorem ml_L_98 : Cond.methodLink RL 98 yX5_way ∈ lw_tbl := List.mem_of_getElem? (i := 699) (by decide +kernel)
theorem ml_L_101 : Cond.methodLink RL 101 yX5_wanting ∈ lw_tbl := List.mem_of_getElem? (i := 706) (by decide +kernel)
theorem ml_L_104 : Cond.methodLink RL 104 yX5_productOf ∈ lw_tbl := List.mem_of_getElem? (i := 713) (by decide +kernel)
theorem ml_L_107 : Cond.methodLink RL 107 yX5_riskOf ∈ lw_tbl := List.mem_of_getElem? (i := 725) (by decide +kernel)
theorem ml_L_110 : Cond.methodLink RL 110 yX5_batchOf ∈ lw_tbl := List.mem_of_getElem? (i := 732) (by decide +kernel)
theorem ml_L_113 : Cond.methodLink RL 113 yX5_wantingAnew ∈ lw_tbl := List.mem_of_getElem? (i := 739) (by decide +kernel)
theorem ml_L_116 : Cond.methodLink RL 116 yX5_init ∈ lw_tbl := List.mem_of_getElem? (i := 58) (by decide +kernel)
theorem ml_L_119 : Cond.methodLink RL 119 yX6_init ∈ lw_tbl := List.mem_of_getElem? (i := 745) (by decide +kernel)
theorem ml_L_120 : Cond.methodLink RL 120 yL_act ∈ lw_tbl := List.mem_of_getElem? (i := 112) (by decide +kernel)
theorem ml_L_125 : Cond.methodLink RL 125 yX6_act ∈ lw_tbl := List.mem_of_getElem? (i := 869) (by decide +kernel)
theorem ml_L_126 : Cond.methodLink RL 126 yX6_thrown ∈ lw_tbl := List.mem_of_getElem? (i := 865) (by decide +kernel)
theorem ml_L_130 : Cond.methodLink RL 130 yL_special ∈ lw_tbl := List.mem_of_getElem? (i := 230) (by decide +kernel)
theorem ml_L_133 : Cond.methodLink RL 133 yX6_special ∈ lw_tbl := List.mem_of_getElem? (i := 880) (by decide +kernel)
theorem ml_L_134 : Cond.methodLink RL 134 yL_standard ∈ lw_tbl := List.mem_of_getElem? (i := 267) (by decide +kernel)
theorem ml_L_136 : Cond.methodLink RL 136 yX6_standard ∈ lw_tbl := List.mem_of_getElem? (i := 892) (by decide +kernel)
theorem ml_L_137 : Cond.methodLink RL 137 yL_withdraw ∈ lw_tbl := List.mem_of_getElem? (i := 292) (by decide +kernel)
theorem ml_L_139 : Cond.methodLink RL 139 yX6_withdraw ∈ lw_tbl := List.mem_of_getElem? (i := 897) (by decide +kernel)
theorem ml_L_140 : Cond.methodLink RL 140 yL_restrict ∈ lw_tbl := List.mem_of_getElem? (i := 304) (by decide +kernel)
theorem ml_L_142 : Cond.methodLink RL 142 yX6_restrict ∈ lw_tbl := List.mem_of_getElem? (i := 905) (by decide +kernel)
theorem ml_L_143 : Cond.methodLink RL 143 yL_product ∈ lw_tbl := List.mem_of_getElem? (i := 311) (by decide +kernel)
theorem ml_L_146 : Cond.methodLink RL 146 yX6_product ∈ lw_tbl := List.mem_of_getElem? (i := 909) (by decide +kernel)
theorem ml_L_147 : Cond.methodLink RL 147 yL_change ∈ lw_tbl := List.mem_of_getElem? (i := 369) (by decide +kernel)
theorem ml_L_149 : Cond.methodLink RL 149 yX6_change ∈ lw_tbl := List.mem_of_getElem? (i := 913) (by decide +kernel)
theorem ml_L_150 : Cond.methodLink RL 150 yL_risk ∈ lw_tbl := List.mem_of_getElem? (i := 389) (by decide +kernel)
theorem ml_L_152 : Cond.methodLink RL 152 yX6_risk ∈ lw_tbl := List.mem_of_getElem? (i := 925) (by decide +kernel)
theorem ml_L_153 : Cond.methodLink RL 153 yL_follow ∈ lw_tbl := List.mem_of_getElem? (i := 400) (by decide +kernel)
theorem ml_L_156 : Cond.methodLink RL 156 yX6_follow ∈ lw_tbl := List.mem_of_getElem? (i := 929) (by decide +kernel)
theorem ml_L_157 : Cond.methodLink RL 157 yL_prove ∈ lw_tbl := List.mem_of_getElem? (i := 407) (by decide +kernel)
theorem ml_L_159 : Cond.methodLink RL 159 yX6_prove ∈ lw_tbl := List.mem_of_getElem? (i := 933) (by decide +kernel)
theorem ml_L_160 : Cond.methodLink RL 160 yL_declare ∈ lw_tbl := List.mem_of_getElem? (i := 414) (by decide +kernel)
theorem ml_L_162 : Cond.methodLink RL 162 yX6_declare ∈ lw_tbl := List.mem_of_getElem? (i := 937) (by decide +kernel)
theorem ml_L_163 : Cond.methodLink RL 163 yL_body ∈ lw_tbl := List.mem_of_getElem? (i := 491) (by decide +kernel)
theorem ml_L_165 : Cond.methodLink RL 165 yX6_body ∈ lw_tbl := List.mem_of_getElem? (i := 988) (by decide +kernel)
theorem ml_L_166 : Cond.methodLink RL 166 yL_suspend ∈ lw_tbl := List.mem_of_getElem? (i := 516) (by decide +kernel)
theorem ml_L_169 : Cond.methodLink RL 169 yX6_suspend ∈ lw_tbl := List.mem_of_getElem? (i := 992) (by decide +kernel)
theorem ml_L_170 : Cond.methodLink RL 170 yL_certify ∈ lw_tbl := List.mem_of_getElem? (i := 529) (by decide +kernel)
theorem ml_L_172 : Cond.methodLink RL 172 yX6_certify ∈ lw_tbl := List.mem_of_getElem? (i := 1000) (by decide +kernel)
theorem ml_L_173 : Cond.methodLink RL 173 yL_transfer ∈ lw_tbl := List.mem_of_getElem? (i := 542) (by decide +kernel)
theorem ml_L_175 : Cond.methodLink RL 175 yX6_transfer ∈ lw_tbl := List.mem_of_getElem? (i := 1004) (by decide +kernel)
theorem ml_L_176 : Cond.methodLink RL 176 yL_visit ∈ lw_tbl := List.mem_of_getElem? (i := 550) (by decide +kernel)
theorem ml_L_178 : Cond.methodLink RL 178 yX6_visit ∈ lw_tbl := List.mem_of_getElem? (i := 1008) (by decide +kernel)
theorem ml_L_179 : Cond.methodLink RL 179 yL_place ∈ lw_tbl := List.mem_of_getElem? (i := 558) (by decide +kernel)
theorem ml_L_181 : Cond.methodLink RL 181 yX6_place ∈ lw_tbl := List.mem_of_getElem? (i := 1012) (by decide +kernel)
theorem ml_L_182 : Cond.methodLink RL 182 yL_post ∈ lw_tbl := List.mem_of_getElem? (i := 613) (by decide +kernel)
theorem ml_L_184 : Cond.methodLink RL 184 yX6_post ∈ lw_tbl := List.mem_of_getElem? (i := 1020) (by decide +kernel)
theorem ml_L_185 : Cond.methodLink RL 185 yL_sample ∈ lw_tbl := List.mem_of_getElem? (i := 620) (by decide +kernel)
theorem ml_L_187 : Cond.methodLink RL 187 yX6_sample ∈ lw_tbl := List.mem_of_getElem? (i := 1024) (by decide +kernel)
theorem ml_L_188 : Cond.methodLink RL 188 yL_event ∈ lw_tbl := List.mem_of_getElem? (i := 633) (by decide +kernel)
theorem ml_L_190 : Cond.methodLink RL 190 yX6_event ∈ lw_tbl := List.mem_of_getElem? (i := 1033) (by decide +kernel)
theorem ml_L_191 : Cond.methodLink RL 191 yL_recall ∈ lw_tbl := List.mem_of_getElem? (i := 654) (by decide +kernel)
theorem ml_L_193 : Cond.methodLink RL 193 yX6_recall ∈ lw_tbl := List.mem_of_getElem? (i := 1041) (by decide +kernel)
theorem ml_L_194 : Cond.methodLink RL 194 yL_ban ∈ lw_tbl := List.mem_of_getElem? (i := 666) (by decide +kernel)
theorem ml_L_197 : Cond.methodLink RL 197 yX6_ban ∈ lw_tbl := List.mem_of_getElem? (i := 1045) (by decide +kernel)
theorem ml_L_198 : Cond.methodLink RL 198 yL_pass ∈ lw_tbl := List.mem_of_getElem? (i := 674) (by decide +kernel)
theorem ml_L_200 : Cond.methodLink RL 200 yX6_pass ∈ lw_tbl := List.mem_of_getElem? (i := 1049) (by decide +kernel)
theorem ml_L_201 : Cond.methodLink RL 201 yX5_day ∈ lw_tbl := List.mem_of_getElem? (i := 108) (by decide +kernel)
theorem ml_L_204 : Cond.methodLink RL 204 yX6_day ∈ lw_tbl := List.mem_of_getElem? (i := 1053) (by decide +kernel)
theorem ml_L_205 : Cond.methodLink RL 205 yL_applies ∈ lw_tbl := List.mem_of_getElem? (i := 682) (by decide +kernel)
theorem ml_L_207 : Cond.methodLink RL 207 yX6_applies ∈ lw_tbl := List.mem_of_getElem? (i := 1057) (by decide +kernel)
theorem ml_L_208 : Cond.methodLink RL 208 yL_demands ∈ lw_tbl := List.mem_of_getElem? (i := 689) (by decide +kernel)
theorem ml_L_210 : Cond.methodLink RL 210 yX6_demands ∈ lw_tbl := List.mem_of_getElem? (i := 1061) (by decide +kernel)
theorem ml_L_211 : Cond.methodLink RL 211 yL_way ∈ lw_tbl := List.mem_of_getElem? (i := 696) (by decide +kernel)
theorem ml_L_213 : Cond.methodLink RL 213 yX6_way ∈ lw_tbl := List.mem_of_getElem? (i := 1065) (by decide +kernel)
theorem ml_L_214 : Cond.methodLink RL 214 yL_wanting ∈ lw_tbl := List.mem_of_getElem? (i := 703) (by decide +kernel)
theorem ml_L_216 : Cond.methodLink RL 216 yX6_wanting ∈ lw_tbl := List.mem_of_getElem? (i := 1069) (by decide +kernel)
theorem ml_L_217 : Cond.methodLink RL 217 yL_productOf ∈ lw_tbl := List.mem_of_getElem? (i := 710) (by decide +kernel)
theorem ml_L_219 : Cond.methodLink RL 219 yX6_productOf ∈ lw_tbl := List.mem_of_getElem? (i := 1073) (by decide +kernel)
theorem ml_L_220 : Cond.methodLink RL 220 yL_riskOf ∈ lw_tbl := List.mem_of_getElem? (i := 722) (by decide +kernel)
theorem ml_L_222 : Cond.methodLink RL 222 yX6_riskOf ∈ lw_tbl := List.mem_of_getElem? (i := 1081) (by decide +kernel)
theorem ml_L_223 : Cond.methodLink RL 223 yL_batchOf ∈ lw_tbl := List.mem_of_getElem? (i := 729) (by decide +kernel)
theorem ml_L_225 : Cond.methodLink RL 225 yX6_batchOf ∈ lw_tbl := List.mem_of_getElem? (i := 1085) (by decide +kernel)
theorem ml_L_226 : Cond.methodLink RL 226 yL_wantingAnew ∈ lw_tbl := List.mem_of_getElem? (i := 736) (by decide +kernel)
theorem ml_L_228 : Cond.methodLink RL 228 yX6_wantingAnew ∈ lw_tbl := List.mem_of_getElem? (i := 1089) (by decide +kernel)
theorem ml_X6_1 : Cond.methodLink RX6 1 objectInit ∈ lw_tbl := List.mem_of_getElem? (i := 748) (by decide +kernel)
theorem ml_X6_111 : Cond.methodLink RX6 111 yX6_in ∈ lw_tbl := List.mem_of_getElem? (i := 873) (by decide +kernel)
theorem ml_X6_127 : Cond.methodLink RX6 127 yX6_refused ∈ lw_tbl := List.mem_of_getElem? (i := 876) (by decide +kernel)
theorem ml_X6_131 : Cond.methodLink RX6 131 yX6_isAct ∈ lw_tbl := List.mem_of_getElem? (i := 884) (by decide +kernel)
theorem ml_X6_134 : Cond.methodLink RX6 134 yX6_isAbove ∈ lw_tbl := List.mem_of_getElem? (i := 888) (by decide +kernel)
theorem ml_X6_139 : Cond.methodLink RX6 139 yX6_isStandard ∈ lw_tbl := List.mem_of_getElem? (i := 901) (by decide +kernel)
theorem ml_X6_145 : Cond.methodLink RX6 145 yX6_isProduct ∈ lw_tbl := List.mem_of_getElem? (i := 917) (by decide +kernel)
theorem ml_X6_148 : Cond.methodLink RX6 148 yX6_nextVersion ∈ lw_tbl := List.mem_of_getElem? (i := 921) (by decide +kernel)
theorem ml_X6_152 : Cond.methodLink RX6 152 yX6_isFor ∈ lw_tbl := List.mem_of_getElem? (i := 956) (by decide +kernel)
theorem ml_X6_155 : Cond.methodLink RX6 155 yX6_doesApply ∈ lw_tbl := List.mem_of_getElem? (i := 952) (by decide +kernel)
theorem ml_X6_158 : Cond.methodLink RX6 158 yX6_demandsOf ∈ lw_tbl := List.mem_of_getElem? (i := 948) (by decide +kernel)
theorem ml_X6_162 : Cond.methodLink RX6 162 yX6_lowOf ∈ lw_tbl := List.mem_of_getElem? (i := 960) (by decide +kernel)
theorem ml_X6_165 : Cond.methodLink RX6 165 yX6_shown ∈ lw_tbl := List.mem_of_getElem? (i := 968) (by decide +kernel)
theorem ml_X6_168 : Cond.methodLink RX6 168 yX6_applying ∈ lw_tbl := List.mem_of_getElem? (i := 984) (by decide +kernel)
theorem ml_X6_171 : Cond.methodLink RX6 171 yX6_hasScope ∈ lw_tbl := List.mem_of_getElem? (i := 980) (by decide +kernel)
theorem ml_X6_174 : Cond.methodLink RX6 174 yX6_bits ∈ lw_tbl := List.mem_of_getElem? (i := 945) (by decide +kernel)
theorem ml_X6_177 : Cond.methodLink RX6 177 yX6_keptOf ∈ lw_tbl := List.mem_of_getElem? (i := 964) (by decide +kernel)
theorem ml_X6_180 : Cond.methodLink RX6 180 yX6_wayOf ∈ lw_tbl := List.mem_of_getElem? (i := 972) (by decide +kernel)
theorem ml_X6_183 : Cond.methodLink RX6 183 yX6_holds ∈ lw_tbl := List.mem_of_getElem? (i := 976) (by decide +kernel)
theorem ml_X6_186 : Cond.methodLink RX6 186 yX6_wantingOf ∈ lw_tbl := List.mem_of_getElem? (i := 941) (by decide +kernel)
theorem ml_X6_189 : Cond.methodLink RX6 189 yX6_isBody ∈ lw_tbl := List.mem_of_getElem? (i := 996) (by decide +kernel)
theorem ml_X6_192 : Cond.methodLink RX6 192 yX6_arrives ∈ lw_tbl := List.mem_of_getElem? (i := 1016) (by decide +kernel)
theorem ml_X6_197 : Cond.methodLink RX6 197 yX6_isBatch ∈ lw_tbl := List.mem_of_getElem? (i := 1029) (by decide +kernel)
theorem ml_X6_200 : Cond.methodLink RX6 200 yX6_levelOf ∈ lw_tbl := List.mem_of_getElem? (i := 1037) (by decide +kernel)
theorem ml_X6_203 : Cond.methodLink RX6 203 yX6_onMarket ∈ lw_tbl := List.mem_of_getElem? (i := 1077) (by decide +kernel)
theorem fl_X5_11 : Cond.fieldLink RX5 11 RX5 (TX5 0).2.1 (TX5 0).2.2.1 ∈ lw_tbl := List.mem_of_getElem? (i := 74) (by decide +kernel)
theorem fl_X5_17 : Cond.fieldLink RX5 17 RX5 (TX5 1).2.1 (TX5 1).2.2.1 ∈ lw_tbl := List.mem_of_getElem? (i := 75) (by decide +kernel)
theorem fl_X5_23 : Cond.fieldLink RX5 23 RX5 (TX5 2).2.1 (TX5 2).2.2.1 ∈ lw_tbl := List.mem_of_getElem? (i := 76) (by decide +kernel)
theorem fl_X5_29 : Cond.fieldLink RX5 29 RX5 (TX5 3).2.1 (TX5 3).2.2.1 ∈ lw_tbl := List.mem_of_getElem? (i := 77) (by decide +kernel)
theorem fl_X5_35 : Cond.fieldLink RX5 35 RX5 (TX5 4).2.1 (TX5 4).2.2.1 ∈ lw_tbl := List.mem_of_getElem? (i := 78) (by decide +kernel)
theorem fl_X5_43 : Cond.fieldLink RX5 43 RX5 (TX5 5).2.1 (TX5 5).2.2.1 ∈ lw_tbl := List.mem_of_getElem? (i := 79) (by decide +kernel)
theorem fl_X5_79 : Cond.fieldLink RX5 79 RX5 (TX5 6).2.1 (TX5 6).2.2.1 ∈ lw_tbl := List.mem_of_getElem? (i := 80) (by decide +kernel)
theorem fl_X5_91 : Cond.fieldLink RX5 91 RX5 (TX5 10).2.1 (TX5 10).2.2.1 ∈ lw_tbl := List.mem_of_getElem? (i := 84) (by decide +kernel)
theorem fl_X5_100 : Cond.fieldLink RX5 100 RX5 (TX5 7).2.1 (TX5 7).2.2.1 ∈ lw_tbl := List.mem_of_getElem? (i := 81) (by decide +kernel)
theorem fl_X5_146 : Cond.fieldLink RX5 146 RX5 (TX5 8).2.1 (TX5 8).2.2.1 ∈ lw_tbl := List.mem_of_getElem? (i := 82) (by decide +kernel)
theorem fl_X5_320 : Cond.fieldLink RX5 320 RX5 (TX5 9).2.1 (TX5 9).2.2.1 ∈ lw_tbl := List.mem_of_getElem? (i := 83) (by decide +kernel)
theorem fl_X0_7 : Cond.fieldLink RX0 7 RX0 (TX0 0).2.1 (TX0 0).2.2.1 ∈ lw_tbl := List.mem_of_getElem? (i := 213) (by decide +kernel)
theorem fl_X0_13 : Cond.fieldLink RX0 13 RX0 (TX0 1).2.1 (TX0 1).2.2.1 ∈ lw_tbl := List.mem_of_getElem? (i := 214) (by decide +kernel)
theorem fl_X0_16 : Cond.fieldLink RX0 16 RX0 (TX0 2).2.1 (TX0 2).2.2.1 ∈ lw_tbl := List.mem_of_getElem? (i := 215) (by decide +kernel)
theorem fl_X0_19 : Cond.fieldLink RX0 19 RX0 (TX0 3).2.1 (TX0 3).2.2.1 ∈ lw_tbl := List.mem_of_getElem? (i := 217) (by decide +kernel)
theorem fl_X1_9 : Cond.fieldLink RX1 9 RX1 (TX1 0).2.1 (TX1 0).2.2.1 ∈ lw_tbl := List.mem_of_getElem? (i := 576) (by decide +kernel)
theorem fl_X1_15 : Cond.fieldLink RX1 15 RX1 (TX1 1).2.1 (TX1 1).2.2.1 ∈ lw_tbl := List.mem_of_getElem? (i := 578) (by decide +kernel)
theorem fl_X1_18 : Cond.fieldLink RX1 18 RX1 (TX1 2).2.1 (TX1 2).2.2.1 ∈ lw_tbl := List.mem_of_getElem? (i := 580) (by decide +kernel)
theorem fl_X1_21 : Cond.fieldLink RX1 21 RX1 (TX1 3).2.1 (TX1 3).2.2.1 ∈ lw_tbl := List.mem_of_getElem? (i := 582) (by decide +kernel)
theorem fl_X1_24 : Cond.fieldLink RX1 24 RX1 (TX1 4).2.1 (TX1 4).2.2.1 ∈ lw_tbl := List.mem_of_getElem? (i := 584) (by decide +kernel)
theorem fl_X1_27 : Cond.fieldLink RX1 27 RX1 (TX1 5).2.1 (TX1 5).2.2.1 ∈ lw_tbl := List.mem_of_getElem? (i := 586) (by decide +kernel)
theorem fl_X1_30 : Cond.fieldLink RX1 30 RX1 (TX1 6).2.1 (TX1 6).2.2.1 ∈ lw_tbl := List.mem_of_getElem? (i := 588) (by decide +kernel)
theorem fl_X1_33 : Cond.fieldLink RX1 33 RX1 (TX1 7).2.1 (TX1 7).2.2.1 ∈ lw_tbl := List.mem_of_getElem? (i := 590) (by decide +kernel)
theorem fl_X1_40 : Cond.fieldLink RX1 40 RX1 (TX1 8).2.1 (TX1 8).2.2.1 ∈ lw_tbl := List.mem_of_getElem? (i := 592) (by decide +kernel)
theorem fl_X2_9 : Cond.fieldLink RX2 9 RX2 (TX2 0).2.1 (TX2 0).2.2.1 ∈ lw_tbl := List.mem_of_getElem? (i := 504) (by decide +kernel)
theorem fl_X2_15 : Cond.fieldLink RX2 15 RX2 (TX2 1).2.1 (TX2 1).2.2.1 ∈ lw_tbl := List.mem_of_getElem? (i := 506) (by decide +kernel)
theorem fl_X2_18 : Cond.fieldLink RX2 18 RX2 (TX2 2).2.1 (TX2 2).2.2.1 ∈ lw_tbl := List.mem_of_getElem? (i := 507) (by decide +kernel)
theorem fl_X3_9 : Cond.fieldLink RX3 9 RX3 (TX3 3).2.1 (TX3 3).2.2.1 ∈ lw_tbl := List.mem_of_getElem? (i := 330) (by decide +kernel)
theorem fl_X3_15 : Cond.fieldLink RX3 15 RX3 (TX3 0).2.1 (TX3 0).2.2.1 ∈ lw_tbl := List.mem_of_getElem? (i := 324) (by decide +kernel)
theorem fl_X3_19 : Cond.fieldLink RX3 19 RX3 (TX3 1).2.1 (TX3 1).2.2.1 ∈ lw_tbl := List.mem_of_getElem? (i := 326) (by decide +kernel)
theorem fl_X3_22 : Cond.fieldLink RX3 22 RX3 (TX3 2).2.1 (TX3 2).2.2.1 ∈ lw_tbl := List.mem_of_getElem? (i := 328) (by decide +kernel)
theorem fl_X3_25 : Cond.fieldLink RX3 25 RX3 (TX3 6).2.1 (TX3 6).2.2.1 ∈ lw_tbl := List.mem_of_getElem? (i := 336) (by decide +kernel)
theorem fl_X3_28 : Cond.fieldLink RX3 28 RX3 (TX3 8).2.1 (TX3 8).2.2.1 ∈ lw_tbl := List.mem_of_getElem? (i := 340) (by decide +kernel)
theorem fl_X3_31 : Cond.fieldLink RX3 31 RX3 (TX3 9).2.1 (TX3 9).2.2.1 ∈ lw_tbl := List.mem_of_getElem? (i := 342) (by decide +kernel)
theorem fl_X3_34 : Cond.fieldLink RX3 34 RX3 (TX3 4).2.1 (TX3 4).2.2.1 ∈ lw_tbl := List.mem_of_getElem? (i := 332) (by decide +kernel)
theorem fl_X3_37 : Cond.fieldLink RX3 37 RX3 (TX3 5).2.1 (TX3 5).2.2.1 ∈ lw_tbl := List.mem_of_getElem? (i := 334) (by decide +kernel)
theorem fl_X3_43 : Cond.fieldLink RX3 43 RX3 (TX3 7).2.1 (TX3 7).2.2.1 ∈ lw_tbl := List.mem_of_getElem? (i := 338) (by decide +kernel)
theorem fl_X4_9 : Cond.fieldLink RX4 9 RX4 (TX4 1).2.1 (TX4 1).2.2.1 ∈ lw_tbl := List.mem_of_getElem? (i := 281) (by decide +kernel)
theorem fl_X4_15 : Cond.fieldLink RX4 15 RX4 (TX4 0).2.1 (TX4 0).2.2.1 ∈ lw_tbl := List.mem_of_getElem? (i := 280) (by decide +kernel)
theorem fl_X4_18 : Cond.fieldLink RX4 18 RX4 (TX4 2).2.1 (TX4 2).2.2.1 ∈ lw_tbl := List.mem_of_getElem? (i := 283) (by decide +kernel)
theorem fl_X6_7 : Cond.fieldLink RX6 7 RX6 (TX6 3).2.1 (TX6 3).2.2.1 ∈ lw_tbl := List.mem_of_getElem? (i := 752) (by decide +kernel)
theorem fl_X6_13 : Cond.fieldLink RX6 13 RX6 (TX6 4).2.1 (TX6 4).2.2.1 ∈ lw_tbl := List.mem_of_getElem? (i := 753) (by decide +kernel)
theorem fl_X6_16 : Cond.fieldLink RX6 16 RX6 (TX6 5).2.1 (TX6 5).2.2.1 ∈ lw_tbl := List.mem_of_getElem? (i := 754) (by decide +kernel)
theorem fl_X6_19 : Cond.fieldLink RX6 19 RX6 (TX6 6).2.1 (TX6 6).2.2.1 ∈ lw_tbl := List.mem_of_getElem? (i := 755) (by decide +kernel)
theorem fl_X6_22 : Cond.fieldLink RX6 22 RX6 (TX6 7).2.1 (TX6 7).2.2.1 ∈ lw_tbl := List.mem_of_getElem? (i := 756) (by decide +kernel)
theorem fl_X6_26 : Cond.fieldLink RX6 26 RX6 (TX6 8).2.1 (TX6 8).2.2.1 ∈ lw_tbl := List.mem_of_getElem? (i := 757) (by decide +kernel)
theorem fl_X6_29 : Cond.fieldLink RX6 29 RX6 (TX6 10).2.1 (TX6 10).2.2.1 ∈ lw_tbl := List.mem_of_getElem? (i := 759) (by decide +kernel)
theorem fl_X6_32 : Cond.fieldLink RX6 32 RX6 (TX6 11).2.1 (TX6 11).2.2.1 ∈ lw_tbl := List.mem_of_getElem? (i := 760) (by decide +kernel)
theorem fl_X6_35 : Cond.fieldLink RX6 35 RX6 (TX6 12).2.1 (TX6 12).2.2.1 ∈ lw_tbl := List.mem_of_getElem? (i := 761) (by decide +kernel)
theorem fl_X6_38 : Cond.fieldLink RX6 38 RX6 (TX6 14).2.1 (TX6 14).2.2.1 ∈ lw_tbl := List.mem_of_getElem? (i := 763) (by decide +kernel)
theorem fl_X6_41 : Cond.fieldLink RX6 41 RX6 (TX6 15).2.1 (TX6 15).2.2.1 ∈ lw_tbl := List.mem_of_getElem? (i := 764) (by decide +kernel)
theorem fl_X6_44 : Cond.fieldLink RX6 44 RX6 (TX6 16).2.1 (TX6 16).2.2.1 ∈ lw_tbl := List.mem_of_getElem? (i := 765) (by decide +kernel)
theorem fl_X6_47 : Cond.fieldLink RX6 47 RX6 (TX6 17).2.1 (TX6 17).2.2.1 ∈ lw_tbl := List.mem_of_getElem? (i := 766) (by decide +kernel)
theorem fl_X6_50 : Cond.fieldLink RX6 50 RX6 (TX6 18).2.1 (TX6 18).2.2.1 ∈ lw_tbl := List.mem_of_getElem? (i := 767) (by decide +kernel)
theorem fl_X6_53 : Cond.fieldLink RX6 53 RX6 (TX6 19).2.1 (TX6 19).2.2.1 ∈ lw_tbl := List.mem_of_getElem? (i := 768) (by decide +kernel)
theorem fl_X6_56 : Cond.fieldLink RX6 56 RX6 (TX6 20).2.1 (TX6 20).2.2.1 ∈ lw_tbl := List.mem_of_getElem? (i := 769) (by decide +kernel)
theorem fl_X6_59 : Cond.fieldLink RX6 59 RX6 (TX6 21).2.1 (TX6 21).2.2.1 ∈ lw_tbl := List.mem_of_getElem? (i := 770) (by decide +kernel)
theorem fl_X6_62 : Cond.fieldLink RX6 62 RX6 (TX6 22).2.1 (TX6 22).2.2.1 ∈ lw_tbl := List.mem_of_getElem? (i := 771) (by decide +kernel)
theorem fl_X6_65 : Cond.fieldLink RX6 65 RX6 (TX6 23).2.1 (TX6 23).2.2.1 ∈ lw_tbl := List.mem_of_getElem? (i := 772) (by decide +kernel)
theorem fl_X6_68 : Cond.fieldLink RX6 68 RX6 (TX6 24).2.1 (TX6 24).2.2.1 ∈ lw_tbl := List.mem_of_getElem? (i := 773) (by decide +kernel)
theorem fl_X6_71 : Cond.fieldLink RX6 71 RX6 (TX6 26).2.1 (TX6 26).2.2.1 ∈ lw_tbl := List.mem_of_getElem? (i := 775) (by decide +kernel)
theorem fl_X6_74 : Cond.fieldLink RX6 74 RX6 (TX6 27).2.1 (TX6 27).2.2.1 ∈ lw_tbl := List.mem_of_getElem? (i := 776) (by decide +kernel)
theorem fl_X6_77 : Cond.fieldLink RX6 77 RX6 (TX6 29).2.1 (TX6 29).2.2.1 ∈ lw_tbl := List.mem_of_getElem? (i := 778) (by decide +kernel)
theorem fl_X6_80 : Cond.fieldLink RX6 80 RX6 (TX6 30).2.1 (TX6 30).2.2.1 ∈ lw_tbl := List.mem_of_getElem? (i := 779) (by decide +kernel)
theorem fl_X6_83 : Cond.fieldLink RX6 83 RX6 (TX6 31).2.1 (TX6 31).2.2.1 ∈ lw_tbl := List.mem_of_getElem? (i := 780) (by decide +kernel)
theorem fl_X6_86 : Cond.fieldLink RX6 86 RX6 (TX6 32).2.1 (TX6 32).2.2.1 ∈ lw_tbl := List.mem_of_getElem? (i := 781) (by decide +kernel)
theorem fl_X6_89 : Cond.fieldLink RX6 89 RX6 (TX6 33).2.1 (TX6 33).2.2.1 ∈ lw_tbl := List.mem_of_getElem? (i := 782) (by decide +kernel)
theorem fl_X6_92 : Cond.fieldLink RX6 92 RX6 (TX6 34).2.1 (TX6 34).2.2.1 ∈ lw_tbl := List.mem_of_getElem? (i := 783) (by decide +kernel)
theorem fl_X6_95 : Cond.fieldLink RX6 95 RX6 (TX6 35).2.1 (TX6 35).2.2.1 ∈ lw_tbl := List.mem_of_getElem? (i := 784) (by decide +kernel)
theorem fl_X6_98 : Cond.fieldLink RX6 98 RX6 (TX6 36).2.1 (TX6 36).2.2.1 ∈ lw_tbl := List.mem_of_getElem? (i := 785) (by decide +kernel)
theorem fl_X6_101 : Cond.fieldLink RX6 101 RX6 (TX6 37).2.1 (TX6 37).2.2.1 ∈ lw_tbl := List.mem_of_getElem? (i := 786) (by decide +kernel)
theorem fl_X6_104 : Cond.fieldLink RX6 104 RX6 (TX6 0).2.1 (TX6 0).2.2.1 ∈ lw_tbl := List.mem_of_getElem? (i := 749) (by decide +kernel)
theorem fl_X6_108 : Cond.fieldLink RX6 108 RX6 (TX6 2).2.1 (TX6 2).2.2.1 ∈ lw_tbl := List.mem_of_getElem? (i := 751) (by decide +kernel)
theorem fl_X6_115 : Cond.fieldLink RX6 115 RX6 (TX6 9).2.1 (TX6 9).2.2.1 ∈ lw_tbl := List.mem_of_getElem? (i := 758) (by decide +kernel)
theorem fl_X6_118 : Cond.fieldLink RX6 118 RX6 (TX6 13).2.1 (TX6 13).2.2.1 ∈ lw_tbl := List.mem_of_getElem? (i := 762) (by decide +kernel)
theorem fl_X6_121 : Cond.fieldLink RX6 121 RX6 (TX6 25).2.1 (TX6 25).2.2.1 ∈ lw_tbl := List.mem_of_getElem? (i := 774) (by decide +kernel)
theorem fl_X6_124 : Cond.fieldLink RX6 124 RX6 (TX6 28).2.1 (TX6 28).2.2.1 ∈ lw_tbl := List.mem_of_getElem? (i := 777) (by decide +kernel)
theorem fl_X6_142 : Cond.fieldLink RX6 142 RX6 (TX6 1).2.1 (TX6 1).2.2.1 ∈ lw_tbl := List.mem_of_getElem? (i := 750) (by decide +kernel)
theorem fn_X5_76 : Cond.fieldLinkNest RX5 76 RX0 (TX0 4).2.1 (TX0 4).2.2.1 RX5 ∈ lw_tbl := List.mem_of_getElem? (i := 218) (by decide +kernel)
theorem fn_X5_94 : Cond.fieldLinkNest RX5 94 RX4 (TX4 2).2.1 (TX4 2).2.2.1 RX5 ∈ lw_tbl := List.mem_of_getElem? (i := 284) (by decide +kernel)
theorem fn_X5_97 : Cond.fieldLinkNest RX5 97 RX4 (TX4 1).2.1 (TX4 1).2.2.1 RX5 ∈ lw_tbl := List.mem_of_getElem? (i := 282) (by decide +kernel)
theorem fn_X5_112 : Cond.fieldLinkNest RX5 112 RX3 (TX3 3).2.1 (TX3 3).2.2.1 RX5 ∈ lw_tbl := List.mem_of_getElem? (i := 331) (by decide +kernel)
theorem fn_X5_118 : Cond.fieldLinkNest RX5 118 RX3 (TX3 4).2.1 (TX3 4).2.2.1 RX5 ∈ lw_tbl := List.mem_of_getElem? (i := 333) (by decide +kernel)
theorem fn_X5_124 : Cond.fieldLinkNest RX5 124 RX3 (TX3 0).2.1 (TX3 0).2.2.1 RX5 ∈ lw_tbl := List.mem_of_getElem? (i := 325) (by decide +kernel)
theorem fn_X5_128 : Cond.fieldLinkNest RX5 128 RX3 (TX3 1).2.1 (TX3 1).2.2.1 RX5 ∈ lw_tbl := List.mem_of_getElem? (i := 327) (by decide +kernel)
theorem fn_X5_131 : Cond.fieldLinkNest RX5 131 RX3 (TX3 2).2.1 (TX3 2).2.2.1 RX5 ∈ lw_tbl := List.mem_of_getElem? (i := 329) (by decide +kernel)
theorem fn_X5_134 : Cond.fieldLinkNest RX5 134 RX3 (TX3 5).2.1 (TX3 5).2.2.1 RX5 ∈ lw_tbl := List.mem_of_getElem? (i := 335) (by decide +kernel)
theorem fn_X5_143 : Cond.fieldLinkNest RX5 143 RX3 (TX3 6).2.1 (TX3 6).2.2.1 RX5 ∈ lw_tbl := List.mem_of_getElem? (i := 337) (by decide +kernel)
theorem fn_X5_160 : Cond.fieldLinkNest RX5 160 RX2 (TX2 2).2.1 (TX2 2).2.2.1 RX5 ∈ lw_tbl := List.mem_of_getElem? (i := 508) (by decide +kernel)
theorem fn_X5_169 : Cond.fieldLinkNest RX5 169 RX3 (TX3 7).2.1 (TX3 7).2.2.1 RX5 ∈ lw_tbl := List.mem_of_getElem? (i := 339) (by decide +kernel)
theorem fn_X5_173 : Cond.fieldLinkNest RX5 173 RX3 (TX3 8).2.1 (TX3 8).2.2.1 RX5 ∈ lw_tbl := List.mem_of_getElem? (i := 341) (by decide +kernel)
theorem fn_X5_178 : Cond.fieldLinkNest RX5 178 RX2 (TX2 0).2.1 (TX2 0).2.2.1 RX5 ∈ lw_tbl := List.mem_of_getElem? (i := 505) (by decide +kernel)
theorem fn_X5_181 : Cond.fieldLinkNest RX5 181 RX3 (TX3 9).2.1 (TX3 9).2.2.1 RX5 ∈ lw_tbl := List.mem_of_getElem? (i := 343) (by decide +kernel)
theorem fn_X5_198 : Cond.fieldLinkNest RX5 198 RX1 (TX1 6).2.1 (TX1 6).2.2.1 RX5 ∈ lw_tbl := List.mem_of_getElem? (i := 589) (by decide +kernel)
theorem fn_X5_201 : Cond.fieldLinkNest RX5 201 RX1 (TX1 7).2.1 (TX1 7).2.2.1 RX5 ∈ lw_tbl := List.mem_of_getElem? (i := 591) (by decide +kernel)
theorem fn_X5_210 : Cond.fieldLinkNest RX5 210 RX1 (TX1 8).2.1 (TX1 8).2.2.1 RX5 ∈ lw_tbl := List.mem_of_getElem? (i := 593) (by decide +kernel)
theorem fn_X5_223 : Cond.fieldLinkNest RX5 223 RX1 (TX1 5).2.1 (TX1 5).2.2.1 RX5 ∈ lw_tbl := List.mem_of_getElem? (i := 587) (by decide +kernel)
theorem fn_X5_226 : Cond.fieldLinkNest RX5 226 RX1 (TX1 1).2.1 (TX1 1).2.2.1 RX5 ∈ lw_tbl := List.mem_of_getElem? (i := 579) (by decide +kernel)
theorem fn_X5_234 : Cond.fieldLinkNest RX5 234 RX3 (TX3 10).2.1 (TX3 10).2.2.1 RX5 ∈ lw_tbl := List.mem_of_getElem? (i := 344) (by decide +kernel)
theorem fn_X5_263 : Cond.fieldLinkNest RX5 263 RX1 (TX1 0).2.1 (TX1 0).2.2.1 RX5 ∈ lw_tbl := List.mem_of_getElem? (i := 577) (by decide +kernel)
theorem fn_X5_266 : Cond.fieldLinkNest RX5 266 RX1 (TX1 2).2.1 (TX1 2).2.2.1 RX5 ∈ lw_tbl := List.mem_of_getElem? (i := 581) (by decide +kernel)
theorem fn_X5_269 : Cond.fieldLinkNest RX5 269 RX1 (TX1 3).2.1 (TX1 3).2.2.1 RX5 ∈ lw_tbl := List.mem_of_getElem? (i := 583) (by decide +kernel)
theorem fn_X5_270 : Cond.fieldLinkNest RX5 270 RX1 (TX1 4).2.1 (TX1 4).2.2.1 RX5 ∈ lw_tbl := List.mem_of_getElem? (i := 585) (by decide +kernel)
theorem fn_X5_298 : Cond.fieldLinkNest RX5 298 RX0 (TX0 2).2.1 (TX0 2).2.2.1 RX5 ∈ lw_tbl := List.mem_of_getElem? (i := 216) (by decide +kernel)
theorem cl_X5_9 : Cond.classLink RX5 9 RX0 ∈ lw_tbl := List.mem_of_getElem? (i := 64) (by decide +kernel)
theorem cl_X5_15 : Cond.classLink RX5 15 RX4 ∈ lw_tbl := List.mem_of_getElem? (i := 66) (by decide +kernel)
theorem cl_X5_21 : Cond.classLink RX5 21 RX3 ∈ lw_tbl := List.mem_of_getElem? (i := 68) (by decide +kernel)
theorem cl_X5_27 : Cond.classLink RX5 27 RX2 ∈ lw_tbl := List.mem_of_getElem? (i := 70) (by decide +kernel)
theorem cl_X5_33 : Cond.classLink RX5 33 RX1 ∈ lw_tbl := List.mem_of_getElem? (i := 72) (by decide +kernel)
theorem cl_X5_47 : Cond.classLink RX5 47 "java/lang/IllegalStateException" ∈ lw_tbl := List.mem_of_getElem? (i := 192) (by decide +kernel)
theorem cl_X5_61 : Cond.classLink RX5 61 "java/lang/IllegalArgumentException" ∈ lw_tbl := List.mem_of_getElem? (i := 124) (by decide +kernel)
theorem cl_X5_229 : Cond.classLink RX5 229 "java/lang/IndexOutOfBoundsException" ∈ lw_tbl := List.mem_of_getElem? (i := 242) (by decide +kernel)
theorem cl_L_8 : Cond.classLink RL 8 RX5 ∈ lw_tbl := List.mem_of_getElem? (i := 56) (by decide +kernel)
theorem cl_L_13 : Cond.classLink RL 13 "java/lang/IllegalArgumentException" ∈ lw_tbl := List.mem_of_getElem? (i := 115) (by decide +kernel)
theorem cl_L_15 : Cond.classLink RL 15 "java/lang/IllegalStateException" ∈ lw_tbl := List.mem_of_getElem? (i := 116) (by decide +kernel)
theorem cl_L_21 : Cond.classLink RL 21 "java/lang/IndexOutOfBoundsException" ∈ lw_tbl := List.mem_of_getElem? (i := 233) (by decide +kernel)
theorem cl_L_117 : Cond.classLink RL 117 RX6 ∈ lw_tbl := List.mem_of_getElem? (i := 743) (by decide +kernel)
theorem in_L : Cond.initialized RL ∈ lw_tbl := List.mem_of_getElem? (i := 40) (by decide +kernel)
theorem in_X5 : Cond.initialized RX5 ∈ lw_tbl := List.mem_of_getElem? (i := 41) (by decide +kernel)
theorem in_X6 : Cond.initialized RX6 ∈ lw_tbl := List.mem_of_getElem? (i := 42) (by decide +kernel)
theorem in_IA : Cond.initialized "java/lang/IllegalArgumentException" ∈ lw_tbl := List.mem_of_getElem? (i := 46) (by decide +kernel)
theorem in_IS : Cond.initialized "java/lang/IllegalStateException" ∈ lw_tbl := List.mem_of_getElem? (i := 47) (by decide +kernel)
theorem in_X0 : Cond.initialized RX0 ∈ lw_tbl := List.mem_of_getElem? (i := 48) (by decide +kernel)
theorem in_IO : Cond.initialized "java/lang/IndexOutOfBoundsException" ∈ lw_tbl := List.mem_of_getElem? (i := 49) (by decide +kernel)
theorem in_X4 : Cond.initialized RX4 ∈ lw_tbl := List.mem_of_getElem? (i := 50) (by decide +kernel)
theorem in_X3 : Cond.initialized RX3 ∈ lw_tbl := List.mem_of_getElem? (i := 51) (by decide +kernel)
theorem in_X2 : Cond.initialized RX2 ∈ lw_tbl := List.mem_of_getElem? (i := 53) (by decide +kernel)
theorem in_X1 : Cond.initialized RX1 ∈ lw_tbl := List.mem_of_getElem? (i := 54) (by decide +kernel)
theorem in_Math : Cond.initialized "java/lang/Math" ∈ lw_tbl := List.mem_of_getElem? (i := 55) (by decide +kernel)
theorem nw_X5 : Cond.instantiable RX5 11 ∈ lw_tbl := List.mem_of_getElem? (i := 57) (by decide +kernel)
theorem nw_X0 : Cond.instantiable RX0 5 ∈ lw_tbl := List.mem_of_getElem? (i := 208) (by decide +kernel)
theorem nw_X4 : Cond.instantiable RX4 3 ∈ lw_tbl := List.mem_of_getElem? (i := 275) (by decide +kernel)
theorem nw_X3 : Cond.instantiable RX3 11 ∈ lw_tbl := List.mem_of_getElem? (i := 319) (by decide +kernel)
theorem nw_X2 : Cond.instantiable RX2 3 ∈ lw_tbl := List.mem_of_getElem? (i := 499) (by decide +kernel)
theorem nw_X1 : Cond.instantiable RX1 9 ∈ lw_tbl := List.mem_of_getElem? (i := 571) (by decide +kernel)
theorem nw_X6 : Cond.instantiable RX6 38 ∈ lw_tbl := List.mem_of_getElem? (i := 744) (by decide +kernel)
theorem sr_X5_49 : Cond.stringRef RX5 49 "there are 6 acts" ∈ lw_tbl := List.mem_of_getElem? (i := 201) (by decide +kernel)
theorem sr_X5_63 : Cond.stringRef RX5 63 "an act is not more special than itself" ∈ lw_tbl := List.mem_of_getElem? (i := 258) (by decide +kernel)
theorem sr_X5_74 : Cond.stringRef RX5 74 "the other act is more special" ∈ lw_tbl := List.mem_of_getElem? (i := 266) (by decide +kernel)
theorem sr_X5_82 : Cond.stringRef RX5 82 "there are 12 standards" ∈ lw_tbl := List.mem_of_getElem? (i := 274) (by decide +kernel)
theorem sr_X5_103 : Cond.stringRef RX5 103 "there are 10 products" ∈ lw_tbl := List.mem_of_getElem? (i := 318) (by decide +kernel)
theorem sr_X5_141 : Cond.stringRef RX5 141 "more than the declaration is wanting" ∈ lw_tbl := List.mem_of_getElem? (i := 490) (by decide +kernel)
theorem sr_X5_149 : Cond.stringRef RX5 149 "there are 5 bodies" ∈ lw_tbl := List.mem_of_getElem? (i := 498) (by decide +kernel)
theorem sr_X5_167 : Cond.stringRef RX5 167 "more than the certificate is wanting" ∈ lw_tbl := List.mem_of_getElem? (i := 541) (by decide +kernel)
theorem sr_X5_176 : Cond.stringRef RX5 176 "no certificate of another body" ∈ lw_tbl := List.mem_of_getElem? (i := 549) (by decide +kernel)
theorem sr_X5_187 : Cond.stringRef RX5 187 "something is wanting" ∈ lw_tbl := List.mem_of_getElem? (i := 565) (by decide +kernel)
theorem sr_X5_217 : Cond.stringRef RX5 217 "last is below first" ∈ lw_tbl := List.mem_of_getElem? (i := 661) (by decide +kernel)
theorem sr_X5_231 : Cond.stringRef RX5 231 "no such state" ∈ lw_tbl := List.mem_of_getElem? (i := 673) (by decide +kernel)
theorem sr_X5_243 : Cond.stringRef RX5 243 "the days end at 5000" ∈ lw_tbl := List.mem_of_getElem? (i := 681) (by decide +kernel)
theorem sr_X5_261 : Cond.stringRef RX5 261 "what is out of range" ∈ lw_tbl := List.mem_of_getElem? (i := 721) (by decide +kernel)
theorem sr_X5_273 : Cond.stringRef RX5 273 "no such act" ∈ lw_tbl := List.mem_of_getElem? (i := 251) (by decide +kernel)
theorem sr_X5_275 : Cond.stringRef RX5 275 "no such standard" ∈ lw_tbl := List.mem_of_getElem? (i := 303) (by decide +kernel)
theorem sr_X5_277 : Cond.stringRef RX5 277 "no such product" ∈ lw_tbl := List.mem_of_getElem? (i := 380) (by decide +kernel)
theorem sr_X5_279 : Cond.stringRef RX5 279 "no such body" ∈ lw_tbl := List.mem_of_getElem? (i := 527) (by decide +kernel)
theorem sr_X5_281 : Cond.stringRef RX5 281 "no such batch" ∈ lw_tbl := List.mem_of_getElem? (i := 631) (by decide +kernel)
theorem sr_X5_283 : Cond.stringRef RX5 283 "no such hazard" ∈ lw_tbl := List.mem_of_getElem? (i := 399) (by decide +kernel)
theorem sr_X5_285 : Cond.stringRef RX5 285 "an argument is out of range" ∈ lw_tbl := List.mem_of_getElem? (i := 165) (by decide +kernel)
theorem sr_X5_290 : Cond.stringRef RX5 290 "the body is suspended or lacks an act" ∈ lw_tbl := List.mem_of_getElem? (i := 540) (by decide +kernel)
theorem sr_X5_323 : Cond.stringRef RX5 323 "there are 40 batches" ∈ lw_tbl := List.mem_of_getElem? (i := 570) (by decide +kernel)
theorem ck_X5_197 : Cond.constant RX5 197 (100000) ∈ lw_tbl := List.mem_of_getElem? (i := 632) (by decide +kernel)
theorem ck_X6_138 : Cond.constant RX6 138 (1000000) ∈ lw_tbl := List.mem_of_getElem? (i := 896) (by decide +kernel)
theorem ck_X6_196 : Cond.constant RX6 196 (100000) ∈ lw_tbl := List.mem_of_getElem? (i := 1028) (by decide +kernel)
theorem ck_Int_265 : Cond.constant "java/lang/Integer" 265 (1431655765) ∈ lw_tbl := List.mem_of_getElem? (i := 455) (by decide +kernel)
theorem ck_Int_266 : Cond.constant "java/lang/Integer" 266 (858993459) ∈ lw_tbl := List.mem_of_getElem? (i := 456) (by decide +kernel)
theorem ck_Int_267 : Cond.constant "java/lang/Integer" 267 (252645135) ∈ lw_tbl := List.mem_of_getElem? (i := 457) (by decide +kernel)
theorem kl_X1_43 : Cond.constantLong RX1 43 (1000) ∈ lw_tbl := List.mem_of_getElem? (i := 651) (by decide +kernel)
theorem kl_X1_45 : Cond.constantLong RX1 45 (50) ∈ lw_tbl := List.mem_of_getElem? (i := 652) (by decide +kernel)
theorem kl_X1_47 : Cond.constantLong RX1 47 (10) ∈ lw_tbl := List.mem_of_getElem? (i := 653) (by decide +kernel)
theorem ac_byte : Cond.arrayClass .byte ∈ lw_tbl := List.mem_of_getElem? (i := 191) (by decide +kernel)
theorem ac_int : Cond.arrayClass .int ∈ lw_tbl := List.mem_of_getElem? (i := 368) (by decide +kernel)
theorem ac_boolean : Cond.arrayClass .boolean ∈ lw_tbl := List.mem_of_getElem? (i := 864) (by decide +kernel)
theorem ac_long : Cond.arrayClass .long ∈ lw_tbl := List.mem_of_getElem? (i := 1093) (by decide +kernel)
theorem ao_X0 : Cond.arrayOver (.object RX0) ∈ lw_tbl := List.mem_of_getElem? (i := 65) (by decide +kernel)
theorem ao_X4 : Cond.arrayOver (.object RX4) ∈ lw_tbl := List.mem_of_getElem? (i := 67) (by decide +kernel)
theorem ao_X3 : Cond.arrayOver (.object RX3) ∈ lw_tbl := List.mem_of_getElem? (i := 69) (by decide +kernel)
theorem ao_X2 : Cond.arrayOver (.object RX2) ∈ lw_tbl := List.mem_of_getElem? (i := 71) (by decide +kernel)
theorem ao_X1 : Cond.arrayOver (.object RX1) ∈ lw_tbl := List.mem_of_getElem? (i := 73) (by decide +kernel)
theorem ca_IA : Cond.castable "java/lang/IllegalArgumentException" "java/lang/IllegalArgumentException" ∈ lw_tbl := List.mem_of_getElem? (i := 126) (by decide +kernel)
theorem ca_IS : Cond.castable "java/lang/IllegalStateException" "java/lang/IllegalStateException" ∈ lw_tbl := List.mem_of_getElem? (i := 194) (by decide +kernel)
theorem ca_IO : Cond.castable "java/lang/IndexOutOfBoundsException" "java/lang/IndexOutOfBoundsException" ∈ lw_tbl := List.mem_of_getElem? (i := 244) (by decide +kernel)
theorem w_oi1 : Cond.instanceMethod objectInit ∈ lw_tbl := List.mem_of_getElem? (i := 62) (by decide +kernel)
theorem w_oi2 : Cond.code objectInit ⟨#[0xb1]⟩ 1 none ∈ lw_tbl := List.mem_of_getElem? (i := 63) (by decide +kernel)
theorem w_mx1 : Cond.static Lib.Math.max.name ∈ lw_tbl := List.mem_of_getElem? (i := 641) (by decide +kernel)
theorem w_mx2 : Cond.code Lib.Math.max.name Lib.Math.max.code 2 (some .int) ∈ lw_tbl := List.mem_of_getElem? (i := 642) (by decide +kernel)
theorem at_IA : ∀ w ∈ vx_atS RX5 65 "java/lang/IllegalArgumentException" ["java/lang/RuntimeException", "java/lang/Exception"], w ∈ lw_tbl ∧ (goodWord w || dcW w) = true := by decide +kernel
theorem gd_IA : ∀ w ∈ Cond.classLink RX5 61 "java/lang/IllegalArgumentException" :: Cond.initialized "java/lang/IllegalArgumentException" :: vx_atS RX5 65 "java/lang/IllegalArgumentException" ["java/lang/RuntimeException", "java/lang/Exception"], vx_ot w = true := by decide +kernel
theorem ft_IA : Bundle.fit "java/lang/IllegalArgumentException" = true := by decide +kernel
theorem at_IS : ∀ w ∈ vx_atS RX5 51 "java/lang/IllegalStateException" ["java/lang/RuntimeException", "java/lang/Exception"], w ∈ lw_tbl ∧ (goodWord w || dcW w) = true := by decide +kernel
theorem gd_IS : ∀ w ∈ Cond.classLink RX5 47 "java/lang/IllegalStateException" :: Cond.initialized "java/lang/IllegalStateException" :: vx_atS RX5 51 "java/lang/IllegalStateException" ["java/lang/RuntimeException", "java/lang/Exception"], vx_ot w = true := by decide +kernel
theorem ft_IS : Bundle.fit "java/lang/IllegalStateException" = true := by decide +kernel
theorem at_IO : ∀ w ∈ vx_atS RX5 233 "java/lang/IndexOutOfBoundsException" ["java/lang/RuntimeException", "java/lang/Exception"], w ∈ lw_tbl ∧ (goodWord w || dcW w) = true := by decide +kernel
theorem gd_IO : ∀ w ∈ Cond.classLink RX5 229 "java/lang/IndexOutOfBoundsException" :: Cond.initialized "java/lang/IndexOutOfBoundsException" :: vx_atS RX5 233 "java/lang/IndexOutOfBoundsException" ["java/lang/RuntimeException", "java/lang/Exception"], vx_ot w = true := by decide +kernel
theorem ft_IO : Bundle.fit "java/lang/IndexOutOfBoundsException" = true := by decide +kernel
end
section
/-! the state: numbers by field (the reference's own field numbers) and place; both the class's and the reference's cells are told by it -/
abbrev St : Type := Nat → Nat → Int32
def tysOf (TC : Nat → ClassId) : List (ClassId × FieldType) := [(TC 0, .int), (TC 1, .long), (TC 2, .boolean), (TC 3, .object RX0), (TC 4, .object RX4), (TC 5, .object RX3), (TC 6, .object RX2), (TC 7, .object RX1)]
def sU (S : St) (f i : Nat) (v : Int32) : St := fun g => if g = f then upd (S f) i v else S g
def cnt (X : St) (f : Nat) : Nat := (X f 0).toNatClampNeg
/-- a set of bits out of a predicate -/
def bm (P : Nat → Bool) : Nat → Int32
  | 0 => 0
  | n + 1 => if P n then bm P n ||| ((1 : Int32) <<< (nI n &&& 31)) else bm P n
def msB (X : St) (a : Nat) : Int32 := bm (fun k => X 7 (6 * k + a) != 0) 6
def unt (X : St) (i : Nat) : Int32 := if X 12 i = 1000000 then -1 else X 12 i
def cert (X : St) (p : Nat) : Value := if X 20 p = -1 then .null else .ref (1300 + (X 20 p).toNatClampNeg)
def actF (X : St) (i : Nat) : List Value := [.int (X 3 i), .int (X 4 i), .int (X 5 i), .int (X 6 i), .int (msB X i)]
def stdF (X : St) (i : Nat) : List Value := [.int (X 11 i), .int (X 10 i), .int (unt X i)]
def prdF (X : St) (i : Nat) : List Value := [.ref (1500 + i), .ref (1600 + i), .ref (1700 + i), .int (X 14 i), .int (X 15 i), .int (X 19 i), .int (X 23 i), cert X i, .int (X 21 i), .int (X 22 i), .int (X 24 i)]
def bodF (X : St) (i : Nat) : List Value := [.int (nI i), .int (X 26 i), .int (X 27 i)]
def batF (X : St) (i : Nat) : List Value := [.int (X 29 i), .int (X 30 i), .int (X 31 i), .int (X 32 i), .int (X 33 i), .int (X 34 i), .int (X 35 i), .int (X 36 i), .int (X 37 i)]
def cnfF (X : St) : List Value := [.ref 10, .ref 11, .ref 12, .ref 13, .ref 14, .int (X 2 0), .int (X 9 0), .int (X 13 0), .int (X 25 0), .int (X 28 0), .int (X 1 0)]
def rarr (b n : Nat) (j : Nat) : Option Nat := if j < n then some (b + j) else none
def mfs (S : St) : List Value := [.int (S 0 0), .int (S 1 0), .int (S 2 0), .ref 103, .ref 104, .ref 105, .ref 106, .ref 107, .ref 108, .int (S 9 0), .ref 110, .ref 111, .ref 112, .int (S 13 0), .ref 114, .ref 115, .ref 116, .ref 117, .ref 118, .ref 119, .ref 120, .ref 121, .ref 122, .ref 123, .ref 124, .int (S 25 0), .ref 126, .ref 127, .int (S 28 0), .ref 129, .ref 130, .ref 131, .ref 132, .ref 133, .ref 134, .ref 135, .ref 136, .ref 137]
def mlen (i : Nat) : Nat := if i < 3 then 0 else if i < 7 then 6 else if i = 7 then 36 else if i = 8 then 6 else if i = 9 then 0 else if i < 13 then 12 else if i = 13 then 0 else if i < 16 then 10 else if i < 18 then 80 else if i = 18 then 120 else if i < 25 then 10 else if i = 25 then 0 else if i < 28 then 5 else if i = 28 then 0 else if i < 38 then 40 else 0
def mty (i : Nat) : Nat := if i = 7 then 2 else if i = 8 then 2 else 0
def eK0 (TC : Nat → ClassId) (X S : St) (o : Nat → Int64) (i : Nat) : Option va_E :=
  if i = 0 then some (.inr (5, cnfF X)) else if i = 1 then some (.inl (TC 1, 1, .inr (.inl o))) else if i = 2 then some (.inr (6, mfs S))
  else if i = 10 then some (.inl (TC 3, 6, .inr (.inr (.inr (.inr (rarr 1000 (cnt X 2))))))) else if i = 11 then some (.inl (TC 4, 12, .inr (.inr (.inr (.inr (rarr 1100 (cnt X 9)))))))
  else if i = 12 then some (.inl (TC 5, 10, .inr (.inr (.inr (.inr (rarr 1200 (cnt X 13))))))) else if i = 13 then some (.inl (TC 6, 5, .inr (.inr (.inr (.inr (rarr 1300 (cnt X 25)))))))
  else if i = 14 then some (.inl (TC 7, 40, .inr (.inr (.inr (.inr (rarr 1400 (cnt X 28))))))) else none
def eK1 (TC : Nat → ClassId) (S : St) (i : Nat) : Option va_E := if mlen i = 0 then none else some (.inl (TC (mty i), mlen i, .inl (S i)))
def hC (TC : Nat → ClassId) (X : St) (n : Nat) : Option va_E :=
  if n < 1000 then none
  else if n < 1100 then (if n - 1000 < cnt X 2 then some (.inr (0, actF X (n - 1000))) else none)
  else if n < 1200 then (if n - 1100 < cnt X 9 then some (.inr (4, stdF X (n - 1100))) else none)
  else if n < 1300 then (if n - 1200 < cnt X 13 then some (.inr (3, prdF X (n - 1200))) else none)
  else if n < 1400 then (if n - 1300 < cnt X 25 then some (.inr (2, bodF X (n - 1300))) else none)
  else if n < 1500 then (if n - 1400 < cnt X 28 then some (.inr (1, batF X (n - 1400))) else none)
  else if n < 1600 then (if n - 1500 < cnt X 13 then some (.inl (TC 0, 8, .inl (fun j => X 16 (8 * (n - 1500) + j)))) else none)
  else if n < 1700 then (if n - 1600 < cnt X 13 then some (.inl (TC 0, 8, .inl (fun j => X 17 (8 * (n - 1600) + j)))) else none)
  else if n < 1800 then (if n - 1700 < cnt X 13 then some (.inl (TC 0, 12, .inl (fun j => X 18 (12 * (n - 1700) + j)))) else none)
  else none
/-- all cells of the law: the class's by X, the reference's by S, the row of answers o -/
def hall (TC : Nat → ClassId) (X S : St) (o : Nat → Int64) : Hp := fun n => if n < 100 then eK0 TC X S o n else if n < 200 then eK1 TC S (n - 100) else hC TC X n
section STATE
variable {TC : Nat → ClassId} {X S : St} {o : Nat → Int64}
theorem hm_o : hall TC X S o 1 = some (.inl (TC 1, 1, .inr (.inl o))) := rfl
theorem hm_m : hall TC X S o 2 = some (.inr (6, mfs S)) := rfl
theorem hm_c : hall TC X S o 0 = some (.inr (5, cnfF X)) := rfl
theorem hm_a0 : hall TC X S o 10 = some (.inl (TC 3, 6, .inr (.inr (.inr (.inr (rarr 1000 (cnt X 2))))))) := rfl
theorem hm_a1 : hall TC X S o 11 = some (.inl (TC 4, 12, .inr (.inr (.inr (.inr (rarr 1100 (cnt X 9))))))) := rfl
theorem hm_a2 : hall TC X S o 12 = some (.inl (TC 5, 10, .inr (.inr (.inr (.inr (rarr 1200 (cnt X 13))))))) := rfl
theorem hm_a3 : hall TC X S o 13 = some (.inl (TC 6, 5, .inr (.inr (.inr (.inr (rarr 1300 (cnt X 25))))))) := rfl
theorem hm_a4 : hall TC X S o 14 = some (.inl (TC 7, 40, .inr (.inr (.inr (.inr (rarr 1400 (cnt X 28))))))) := rfl
theorem hm_3 : hall TC X S o 103 = some (.inl (TC 0, 6, .inl (S 3))) := rfl
theorem hm_4 : hall TC X S o 104 = some (.inl (TC 0, 6, .inl (S 4))) := rfl
theorem hm_5 : hall TC X S o 105 = some (.inl (TC 0, 6, .inl (S 5))) := rfl
theorem hm_6 : hall TC X S o 106 = some (.inl (TC 0, 6, .inl (S 6))) := rfl
theorem hm_7 : hall TC X S o 107 = some (.inl (TC 2, 36, .inl (S 7))) := rfl
theorem hm_8 : hall TC X S o 108 = some (.inl (TC 2, 6, .inl (S 8))) := rfl
theorem hm_10 : hall TC X S o 110 = some (.inl (TC 0, 12, .inl (S 10))) := rfl
theorem hm_11 : hall TC X S o 111 = some (.inl (TC 0, 12, .inl (S 11))) := rfl
theorem hm_12 : hall TC X S o 112 = some (.inl (TC 0, 12, .inl (S 12))) := rfl
theorem hm_14 : hall TC X S o 114 = some (.inl (TC 0, 10, .inl (S 14))) := rfl
theorem hm_15 : hall TC X S o 115 = some (.inl (TC 0, 10, .inl (S 15))) := rfl
theorem hm_16 : hall TC X S o 116 = some (.inl (TC 0, 80, .inl (S 16))) := rfl
theorem hm_17 : hall TC X S o 117 = some (.inl (TC 0, 80, .inl (S 17))) := rfl
theorem hm_18 : hall TC X S o 118 = some (.inl (TC 0, 120, .inl (S 18))) := rfl
theorem hm_19 : hall TC X S o 119 = some (.inl (TC 0, 10, .inl (S 19))) := rfl
theorem hm_20 : hall TC X S o 120 = some (.inl (TC 0, 10, .inl (S 20))) := rfl
theorem hm_21 : hall TC X S o 121 = some (.inl (TC 0, 10, .inl (S 21))) := rfl
theorem hm_22 : hall TC X S o 122 = some (.inl (TC 0, 10, .inl (S 22))) := rfl
theorem hm_23 : hall TC X S o 123 = some (.inl (TC 0, 10, .inl (S 23))) := rfl
theorem hm_24 : hall TC X S o 124 = some (.inl (TC 0, 10, .inl (S 24))) := rfl
theorem hm_26 : hall TC X S o 126 = some (.inl (TC 0, 5, .inl (S 26))) := rfl
theorem hm_27 : hall TC X S o 127 = some (.inl (TC 0, 5, .inl (S 27))) := rfl
theorem hm_29 : hall TC X S o 129 = some (.inl (TC 0, 40, .inl (S 29))) := rfl
theorem hm_30 : hall TC X S o 130 = some (.inl (TC 0, 40, .inl (S 30))) := rfl
theorem hm_31 : hall TC X S o 131 = some (.inl (TC 0, 40, .inl (S 31))) := rfl
theorem hm_32 : hall TC X S o 132 = some (.inl (TC 0, 40, .inl (S 32))) := rfl
theorem hm_33 : hall TC X S o 133 = some (.inl (TC 0, 40, .inl (S 33))) := rfl
theorem hm_34 : hall TC X S o 134 = some (.inl (TC 0, 40, .inl (S 34))) := rfl
theorem hm_35 : hall TC X S o 135 = some (.inl (TC 0, 40, .inl (S 35))) := rfl
theorem hm_36 : hall TC X S o 136 = some (.inl (TC 0, 40, .inl (S 36))) := rfl
theorem hm_37 : hall TC X S o 137 = some (.inl (TC 0, 40, .inl (S 37))) := rfl
theorem hm_act {i : Nat} (hi : i < cnt X 2) (hb : cnt X 2 ≤ 6) : hall TC X S o (1000 + i) = some (.inr (0, actF X i)) := by
  unfold hall hC
  rw [if_neg (show ¬ 1000 + i < 100 by omega), if_neg (show ¬ 1000 + i < 200 by omega), if_neg (show ¬ 1000 + i < 1000 by omega), if_pos (show 1000 + i < 1100 by omega), Nat.add_sub_cancel_left, if_pos hi]
theorem hm_actN {i : Nat} (hi : ¬ i < cnt X 2) (hb : i < 100) : hall TC X S o (1000 + i) = none := by
  unfold hall hC
  rw [if_neg (show ¬ 1000 + i < 100 by omega), if_neg (show ¬ 1000 + i < 200 by omega), if_neg (show ¬ 1000 + i < 1000 by omega), if_pos (show 1000 + i < 1100 by omega), Nat.add_sub_cancel_left, if_neg hi]
theorem hm_std {i : Nat} (hi : i < cnt X 9) (hb : cnt X 9 ≤ 12) : hall TC X S o (1100 + i) = some (.inr (4, stdF X i)) := by
  unfold hall hC
  rw [if_neg (show ¬ 1100 + i < 100 by omega), if_neg (show ¬ 1100 + i < 200 by omega), if_neg (show ¬ 1100 + i < 1000 by omega), if_neg (show ¬ 1100 + i < 1100 by omega), if_pos (show 1100 + i < 1200 by omega), Nat.add_sub_cancel_left, if_pos hi]
theorem hm_stdN {i : Nat} (hi : ¬ i < cnt X 9) (hb : i < 100) : hall TC X S o (1100 + i) = none := by
  unfold hall hC
  rw [if_neg (show ¬ 1100 + i < 100 by omega), if_neg (show ¬ 1100 + i < 200 by omega), if_neg (show ¬ 1100 + i < 1000 by omega), if_neg (show ¬ 1100 + i < 1100 by omega), if_pos (show 1100 + i < 1200 by omega), Nat.add_sub_cancel_left, if_neg hi]
theorem hm_prd {i : Nat} (hi : i < cnt X 13) (hb : cnt X 13 ≤ 10) : hall TC X S o (1200 + i) = some (.inr (3, prdF X i)) := by
  unfold hall hC
  rw [if_neg (show ¬ 1200 + i < 100 by omega), if_neg (show ¬ 1200 + i < 200 by omega), if_neg (show ¬ 1200 + i < 1000 by omega), if_neg (show ¬ 1200 + i < 1100 by omega), if_neg (show ¬ 1200 + i < 1200 by omega), if_pos (show 1200 + i < 1300 by omega), Nat.add_sub_cancel_left, if_pos hi]
theorem hm_prdN {i : Nat} (hi : ¬ i < cnt X 13) (hb : i < 100) : hall TC X S o (1200 + i) = none := by
  unfold hall hC
  rw [if_neg (show ¬ 1200 + i < 100 by omega), if_neg (show ¬ 1200 + i < 200 by omega), if_neg (show ¬ 1200 + i < 1000 by omega), if_neg (show ¬ 1200 + i < 1100 by omega), if_neg (show ¬ 1200 + i < 1200 by omega), if_pos (show 1200 + i < 1300 by omega), Nat.add_sub_cancel_left, if_neg hi]
theorem hm_bod {i : Nat} (hi : i < cnt X 25) (hb : cnt X 25 ≤ 5) : hall TC X S o (1300 + i) = some (.inr (2, bodF X i)) := by
  unfold hall hC
  rw [if_neg (show ¬ 1300 + i < 100 by omega), if_neg (show ¬ 1300 + i < 200 by omega), if_neg (show ¬ 1300 + i < 1000 by omega), if_neg (show ¬ 1300 + i < 1100 by omega), if_neg (show ¬ 1300 + i < 1200 by omega), if_neg (show ¬ 1300 + i < 1300 by omega), if_pos (show 1300 + i < 1400 by omega), Nat.add_sub_cancel_left, if_pos hi]
theorem hm_bodN {i : Nat} (hi : ¬ i < cnt X 25) (hb : i < 100) : hall TC X S o (1300 + i) = none := by
  unfold hall hC
  rw [if_neg (show ¬ 1300 + i < 100 by omega), if_neg (show ¬ 1300 + i < 200 by omega), if_neg (show ¬ 1300 + i < 1000 by omega), if_neg (show ¬ 1300 + i < 1100 by omega), if_neg (show ¬ 1300 + i < 1200 by omega), if_neg (show ¬ 1300 + i < 1300 by omega), if_pos (show 1300 + i < 1400 by omega), Nat.add_sub_cancel_left, if_neg hi]
theorem hm_bat {i : Nat} (hi : i < cnt X 28) (hb : cnt X 28 ≤ 40) : hall TC X S o (1400 + i) = some (.inr (1, batF X i)) := by
  unfold hall hC
  rw [if_neg (show ¬ 1400 + i < 100 by omega), if_neg (show ¬ 1400 + i < 200 by omega), if_neg (show ¬ 1400 + i < 1000 by omega), if_neg (show ¬ 1400 + i < 1100 by omega), if_neg (show ¬ 1400 + i < 1200 by omega), if_neg (show ¬ 1400 + i < 1300 by omega), if_neg (show ¬ 1400 + i < 1400 by omega), if_pos (show 1400 + i < 1500 by omega), Nat.add_sub_cancel_left, if_pos hi]
theorem hm_batN {i : Nat} (hi : ¬ i < cnt X 28) (hb : i < 100) : hall TC X S o (1400 + i) = none := by
  unfold hall hC
  rw [if_neg (show ¬ 1400 + i < 100 by omega), if_neg (show ¬ 1400 + i < 200 by omega), if_neg (show ¬ 1400 + i < 1000 by omega), if_neg (show ¬ 1400 + i < 1100 by omega), if_neg (show ¬ 1400 + i < 1200 by omega), if_neg (show ¬ 1400 + i < 1300 by omega), if_neg (show ¬ 1400 + i < 1400 by omega), if_pos (show 1400 + i < 1500 by omega), Nat.add_sub_cancel_left, if_neg hi]
theorem hm_rb {i : Nat} (hi : i < cnt X 13) (hb : cnt X 13 ≤ 10) : hall TC X S o (1500 + i) = some (.inl (TC 0, 8, .inl (fun j => X 16 (8 * i + j)))) := by
  unfold hall hC
  rw [if_neg (show ¬ 1500 + i < 100 by omega), if_neg (show ¬ 1500 + i < 200 by omega), if_neg (show ¬ 1500 + i < 1000 by omega), if_neg (show ¬ 1500 + i < 1100 by omega), if_neg (show ¬ 1500 + i < 1200 by omega), if_neg (show ¬ 1500 + i < 1300 by omega), if_neg (show ¬ 1500 + i < 1400 by omega), if_neg (show ¬ 1500 + i < 1500 by omega), if_pos (show 1500 + i < 1600 by omega), Nat.add_sub_cancel_left, if_pos hi]
theorem hm_rbN {i : Nat} (hi : ¬ i < cnt X 13) (hb : i < 100) : hall TC X S o (1500 + i) = none := by
  unfold hall hC
  rw [if_neg (show ¬ 1500 + i < 100 by omega), if_neg (show ¬ 1500 + i < 200 by omega), if_neg (show ¬ 1500 + i < 1000 by omega), if_neg (show ¬ 1500 + i < 1100 by omega), if_neg (show ¬ 1500 + i < 1200 by omega), if_neg (show ¬ 1500 + i < 1300 by omega), if_neg (show ¬ 1500 + i < 1400 by omega), if_neg (show ¬ 1500 + i < 1500 by omega), if_pos (show 1500 + i < 1600 by omega), Nat.add_sub_cancel_left, if_neg hi]
theorem hm_ra {i : Nat} (hi : i < cnt X 13) (hb : cnt X 13 ≤ 10) : hall TC X S o (1600 + i) = some (.inl (TC 0, 8, .inl (fun j => X 17 (8 * i + j)))) := by
  unfold hall hC
  rw [if_neg (show ¬ 1600 + i < 100 by omega), if_neg (show ¬ 1600 + i < 200 by omega), if_neg (show ¬ 1600 + i < 1000 by omega), if_neg (show ¬ 1600 + i < 1100 by omega), if_neg (show ¬ 1600 + i < 1200 by omega), if_neg (show ¬ 1600 + i < 1300 by omega), if_neg (show ¬ 1600 + i < 1400 by omega), if_neg (show ¬ 1600 + i < 1500 by omega), if_neg (show ¬ 1600 + i < 1600 by omega), if_pos (show 1600 + i < 1700 by omega), Nat.add_sub_cancel_left, if_pos hi]
theorem hm_raN {i : Nat} (hi : ¬ i < cnt X 13) (hb : i < 100) : hall TC X S o (1600 + i) = none := by
  unfold hall hC
  rw [if_neg (show ¬ 1600 + i < 100 by omega), if_neg (show ¬ 1600 + i < 200 by omega), if_neg (show ¬ 1600 + i < 1000 by omega), if_neg (show ¬ 1600 + i < 1100 by omega), if_neg (show ¬ 1600 + i < 1200 by omega), if_neg (show ¬ 1600 + i < 1300 by omega), if_neg (show ¬ 1600 + i < 1400 by omega), if_neg (show ¬ 1600 + i < 1500 by omega), if_neg (show ¬ 1600 + i < 1600 by omega), if_pos (show 1600 + i < 1700 by omega), Nat.add_sub_cancel_left, if_neg hi]
theorem hm_fo {i : Nat} (hi : i < cnt X 13) (hb : cnt X 13 ≤ 10) : hall TC X S o (1700 + i) = some (.inl (TC 0, 12, .inl (fun j => X 18 (12 * i + j)))) := by
  unfold hall hC
  rw [if_neg (show ¬ 1700 + i < 100 by omega), if_neg (show ¬ 1700 + i < 200 by omega), if_neg (show ¬ 1700 + i < 1000 by omega), if_neg (show ¬ 1700 + i < 1100 by omega), if_neg (show ¬ 1700 + i < 1200 by omega), if_neg (show ¬ 1700 + i < 1300 by omega), if_neg (show ¬ 1700 + i < 1400 by omega), if_neg (show ¬ 1700 + i < 1500 by omega), if_neg (show ¬ 1700 + i < 1600 by omega), if_neg (show ¬ 1700 + i < 1700 by omega), if_pos (show 1700 + i < 1800 by omega), Nat.add_sub_cancel_left, if_pos hi]
theorem hm_foN {i : Nat} (hi : ¬ i < cnt X 13) (hb : i < 100) : hall TC X S o (1700 + i) = none := by
  unfold hall hC
  rw [if_neg (show ¬ 1700 + i < 100 by omega), if_neg (show ¬ 1700 + i < 200 by omega), if_neg (show ¬ 1700 + i < 1000 by omega), if_neg (show ¬ 1700 + i < 1100 by omega), if_neg (show ¬ 1700 + i < 1200 by omega), if_neg (show ¬ 1700 + i < 1300 by omega), if_neg (show ¬ 1700 + i < 1400 by omega), if_neg (show ¬ 1700 + i < 1500 by omega), if_neg (show ¬ 1700 + i < 1600 by omega), if_neg (show ¬ 1700 + i < 1700 by omega), if_pos (show 1700 + i < 1800 by omega), Nat.add_sub_cancel_left, if_neg hi]
theorem mfs_arr {k i : Nat} {v : Int32} (hk : mlen k ≠ 0) : mfs (sU S k i v) = mfs S := by
  have e : ∀ g : Nat, mlen g = 0 → sU S k i v g = S g := fun g hg => by
    unfold sU
    rw [if_neg (fun z => hk (by rw [← z]; exact hg))]
  unfold mfs
  rw [e 0 rfl, e 1 rfl, e 2 rfl, e 9 rfl, e 13 rfl, e 25 rfl, e 28 rfl]
/-- a store into an array of the reference -/
theorem hmU (k : Nat) (hk : mlen k ≠ 0) (hk2 : k < 100) (i : Nat) (v : Int32) : va_up (hall TC X S o) (100 + k) (some (.inl (TC (mty k), mlen k, .inl (upd (S k) i v)))) = hall TC X (sU S k i v) o := by
  funext n
  unfold va_up
  by_cases hn : n = 100 + k
  · rw [if_pos hn]
    subst hn
    unfold hall eK1
    rw [if_neg (show ¬ 100 + k < 100 by omega), if_pos (show 100 + k < 200 by omega), Nat.add_sub_cancel_left, if_neg hk]
    unfold sU
    rw [if_pos rfl]
  · rw [if_neg hn]
    unfold hall
    by_cases h1 : n < 100
    · rw [if_pos h1, if_pos h1]
      unfold eK0
      rw [mfs_arr hk]
    · rw [if_neg h1, if_neg h1]
      by_cases h2 : n < 200
      · rw [if_pos h2, if_pos h2]
        unfold eK1 sU
        rw [if_neg (show ¬ n - 100 = k by omega)]
      · rw [if_neg h2, if_neg h2]
/-- a store into a field of the reference that is a number -/
theorem hmS (k : Nat) (v : Int32) (hk : mlen k = 0) (hm : (mfs S).set k (.int v) = mfs (sU S k 0 v)) : va_up (hall TC X S o) 2 (some (.inr (6, (mfs S).set k (.int v)))) = hall TC X (sU S k 0 v) o := by
  funext n
  unfold va_up
  by_cases hn : n = 2
  · rw [if_pos hn]
    subst hn
    rw [hm]
    rfl
  · rw [if_neg hn]
    unfold hall
    by_cases h1 : n < 100
    · rw [if_pos h1, if_pos h1]
      unfold eK0
      rw [if_neg hn, if_neg hn]
    · rw [if_neg h1, if_neg h1]
      by_cases h2 : n < 200
      · rw [if_pos h2, if_pos h2]
        unfold eK1 sU
        by_cases h3 : mlen (n - 100) = 0
        · rw [if_pos h3, if_pos h3]
        · rw [if_neg h3, if_neg h3, if_neg (fun z => h3 (by rw [z]; exact hk))]
      · rw [if_neg h2, if_neg h2]
theorem hs_0 (v : Int32) : va_up (hall TC X S o) 2 (some (.inr (6, (mfs S).set 0 (.int v)))) = hall TC X (sU S 0 0 v) o := hmS 0 v rfl (by simp [mfs, sU, upd])
theorem hs_1 (v : Int32) : va_up (hall TC X S o) 2 (some (.inr (6, (mfs S).set 1 (.int v)))) = hall TC X (sU S 1 0 v) o := hmS 1 v rfl (by simp [mfs, sU, upd])
theorem hs_2 (v : Int32) : va_up (hall TC X S o) 2 (some (.inr (6, (mfs S).set 2 (.int v)))) = hall TC X (sU S 2 0 v) o := hmS 2 v rfl (by simp [mfs, sU, upd])
theorem hu_3 (i : Nat) (v : Int32) : va_up (hall TC X S o) 103 (some (.inl (TC 0, 6, .inl (upd (S 3) i v)))) = hall TC X (sU S 3 i v) o := hmU 3 (by decide) (by decide) i v
theorem hu_4 (i : Nat) (v : Int32) : va_up (hall TC X S o) 104 (some (.inl (TC 0, 6, .inl (upd (S 4) i v)))) = hall TC X (sU S 4 i v) o := hmU 4 (by decide) (by decide) i v
theorem hu_5 (i : Nat) (v : Int32) : va_up (hall TC X S o) 105 (some (.inl (TC 0, 6, .inl (upd (S 5) i v)))) = hall TC X (sU S 5 i v) o := hmU 5 (by decide) (by decide) i v
theorem hu_6 (i : Nat) (v : Int32) : va_up (hall TC X S o) 106 (some (.inl (TC 0, 6, .inl (upd (S 6) i v)))) = hall TC X (sU S 6 i v) o := hmU 6 (by decide) (by decide) i v
theorem hu_7 (i : Nat) (v : Int32) : va_up (hall TC X S o) 107 (some (.inl (TC 2, 36, .inl (upd (S 7) i v)))) = hall TC X (sU S 7 i v) o := hmU 7 (by decide) (by decide) i v
theorem hu_8 (i : Nat) (v : Int32) : va_up (hall TC X S o) 108 (some (.inl (TC 2, 6, .inl (upd (S 8) i v)))) = hall TC X (sU S 8 i v) o := hmU 8 (by decide) (by decide) i v
theorem hs_9 (v : Int32) : va_up (hall TC X S o) 2 (some (.inr (6, (mfs S).set 9 (.int v)))) = hall TC X (sU S 9 0 v) o := hmS 9 v rfl (by simp [mfs, sU, upd])
theorem hu_10 (i : Nat) (v : Int32) : va_up (hall TC X S o) 110 (some (.inl (TC 0, 12, .inl (upd (S 10) i v)))) = hall TC X (sU S 10 i v) o := hmU 10 (by decide) (by decide) i v
theorem hu_11 (i : Nat) (v : Int32) : va_up (hall TC X S o) 111 (some (.inl (TC 0, 12, .inl (upd (S 11) i v)))) = hall TC X (sU S 11 i v) o := hmU 11 (by decide) (by decide) i v
theorem hu_12 (i : Nat) (v : Int32) : va_up (hall TC X S o) 112 (some (.inl (TC 0, 12, .inl (upd (S 12) i v)))) = hall TC X (sU S 12 i v) o := hmU 12 (by decide) (by decide) i v
theorem hs_13 (v : Int32) : va_up (hall TC X S o) 2 (some (.inr (6, (mfs S).set 13 (.int v)))) = hall TC X (sU S 13 0 v) o := hmS 13 v rfl (by simp [mfs, sU, upd])
theorem hu_14 (i : Nat) (v : Int32) : va_up (hall TC X S o) 114 (some (.inl (TC 0, 10, .inl (upd (S 14) i v)))) = hall TC X (sU S 14 i v) o := hmU 14 (by decide) (by decide) i v
theorem hu_15 (i : Nat) (v : Int32) : va_up (hall TC X S o) 115 (some (.inl (TC 0, 10, .inl (upd (S 15) i v)))) = hall TC X (sU S 15 i v) o := hmU 15 (by decide) (by decide) i v
theorem hu_16 (i : Nat) (v : Int32) : va_up (hall TC X S o) 116 (some (.inl (TC 0, 80, .inl (upd (S 16) i v)))) = hall TC X (sU S 16 i v) o := hmU 16 (by decide) (by decide) i v
theorem hu_17 (i : Nat) (v : Int32) : va_up (hall TC X S o) 117 (some (.inl (TC 0, 80, .inl (upd (S 17) i v)))) = hall TC X (sU S 17 i v) o := hmU 17 (by decide) (by decide) i v
theorem hu_18 (i : Nat) (v : Int32) : va_up (hall TC X S o) 118 (some (.inl (TC 0, 120, .inl (upd (S 18) i v)))) = hall TC X (sU S 18 i v) o := hmU 18 (by decide) (by decide) i v
theorem hu_19 (i : Nat) (v : Int32) : va_up (hall TC X S o) 119 (some (.inl (TC 0, 10, .inl (upd (S 19) i v)))) = hall TC X (sU S 19 i v) o := hmU 19 (by decide) (by decide) i v
theorem hu_20 (i : Nat) (v : Int32) : va_up (hall TC X S o) 120 (some (.inl (TC 0, 10, .inl (upd (S 20) i v)))) = hall TC X (sU S 20 i v) o := hmU 20 (by decide) (by decide) i v
theorem hu_21 (i : Nat) (v : Int32) : va_up (hall TC X S o) 121 (some (.inl (TC 0, 10, .inl (upd (S 21) i v)))) = hall TC X (sU S 21 i v) o := hmU 21 (by decide) (by decide) i v
theorem hu_22 (i : Nat) (v : Int32) : va_up (hall TC X S o) 122 (some (.inl (TC 0, 10, .inl (upd (S 22) i v)))) = hall TC X (sU S 22 i v) o := hmU 22 (by decide) (by decide) i v
theorem hu_23 (i : Nat) (v : Int32) : va_up (hall TC X S o) 123 (some (.inl (TC 0, 10, .inl (upd (S 23) i v)))) = hall TC X (sU S 23 i v) o := hmU 23 (by decide) (by decide) i v
theorem hu_24 (i : Nat) (v : Int32) : va_up (hall TC X S o) 124 (some (.inl (TC 0, 10, .inl (upd (S 24) i v)))) = hall TC X (sU S 24 i v) o := hmU 24 (by decide) (by decide) i v
theorem hs_25 (v : Int32) : va_up (hall TC X S o) 2 (some (.inr (6, (mfs S).set 25 (.int v)))) = hall TC X (sU S 25 0 v) o := hmS 25 v rfl (by simp [mfs, sU, upd])
theorem hu_26 (i : Nat) (v : Int32) : va_up (hall TC X S o) 126 (some (.inl (TC 0, 5, .inl (upd (S 26) i v)))) = hall TC X (sU S 26 i v) o := hmU 26 (by decide) (by decide) i v
theorem hu_27 (i : Nat) (v : Int32) : va_up (hall TC X S o) 127 (some (.inl (TC 0, 5, .inl (upd (S 27) i v)))) = hall TC X (sU S 27 i v) o := hmU 27 (by decide) (by decide) i v
theorem hs_28 (v : Int32) : va_up (hall TC X S o) 2 (some (.inr (6, (mfs S).set 28 (.int v)))) = hall TC X (sU S 28 0 v) o := hmS 28 v rfl (by simp [mfs, sU, upd])
theorem hu_29 (i : Nat) (v : Int32) : va_up (hall TC X S o) 129 (some (.inl (TC 0, 40, .inl (upd (S 29) i v)))) = hall TC X (sU S 29 i v) o := hmU 29 (by decide) (by decide) i v
theorem hu_30 (i : Nat) (v : Int32) : va_up (hall TC X S o) 130 (some (.inl (TC 0, 40, .inl (upd (S 30) i v)))) = hall TC X (sU S 30 i v) o := hmU 30 (by decide) (by decide) i v
theorem hu_31 (i : Nat) (v : Int32) : va_up (hall TC X S o) 131 (some (.inl (TC 0, 40, .inl (upd (S 31) i v)))) = hall TC X (sU S 31 i v) o := hmU 31 (by decide) (by decide) i v
theorem hu_32 (i : Nat) (v : Int32) : va_up (hall TC X S o) 132 (some (.inl (TC 0, 40, .inl (upd (S 32) i v)))) = hall TC X (sU S 32 i v) o := hmU 32 (by decide) (by decide) i v
theorem hu_33 (i : Nat) (v : Int32) : va_up (hall TC X S o) 133 (some (.inl (TC 0, 40, .inl (upd (S 33) i v)))) = hall TC X (sU S 33 i v) o := hmU 33 (by decide) (by decide) i v
theorem hu_34 (i : Nat) (v : Int32) : va_up (hall TC X S o) 134 (some (.inl (TC 0, 40, .inl (upd (S 34) i v)))) = hall TC X (sU S 34 i v) o := hmU 34 (by decide) (by decide) i v
theorem hu_35 (i : Nat) (v : Int32) : va_up (hall TC X S o) 135 (some (.inl (TC 0, 40, .inl (upd (S 35) i v)))) = hall TC X (sU S 35 i v) o := hmU 35 (by decide) (by decide) i v
theorem hu_36 (i : Nat) (v : Int32) : va_up (hall TC X S o) 136 (some (.inl (TC 0, 40, .inl (upd (S 36) i v)))) = hall TC X (sU S 36 i v) o := hmU 36 (by decide) (by decide) i v
theorem hu_37 (i : Nat) (v : Int32) : va_up (hall TC X S o) 137 (some (.inl (TC 0, 40, .inl (upd (S 37) i v)))) = hall TC X (sU S 37 i v) o := hmU 37 (by decide) (by decide) i v
theorem hs_o (x : Int64) : va_up (hall TC X S o) 1 (some (.inl (TC 1, 1, .inr (.inl (vp_updL o 0 x))))) = hall TC X S (vp_updL o 0 x) := by
  funext n
  unfold va_up
  by_cases hn : n = 1
  · rw [if_pos hn]; subst hn; rfl
  · rw [if_neg hn]
    unfold hall eK0
    rw [if_neg hn, if_neg hn]
end STATE
end
section
/-! what the document says, over the state -/
def bI (b : Bool) : Int32 := if b then 1 else 0
theorem bI_f {b : Bool} (h : bI b = 0) : b = false := by cases b <;> first | rfl | (revert h; decide)
theorem bI_t {b : Bool} (h : ¬ bI b = 0) : b = true := by cases b <;> first | rfl | exact absurd rfl h
theorem narrow_bI (b : Bool) : narrow .boolean (.int (bI b)) = .int (bI b) := by cases b <;> rfl
theorem lt_nle {x y : Int32} (h : x < y) : ¬ y ≤ x := Int32.not_le.mpr h
theorem nlt_le {x y : Int32} (h : ¬ x < y) : y ≤ x := Int32.not_lt.mp h
def sIn (v lo hi : Int32) : Bool := decide (lo ≤ v) && decide (v ≤ hi)
def allA (b : Bool) (P : Nat → Bool) : Nat → Bool
  | 0 => b
  | n + 1 => allA b P n && P n
def orA (a : Int32) (f : Nat → Int32) : Nat → Int32
  | 0 => a
  | n + 1 => orA a f n ||| f n
def anA (a : Int32) (f : Nat → Int32) : Nat → Int32
  | 0 => a
  | n + 1 => anA a f n &&& f n
def adA (a : Int32) (f : Nat → Int32) : Nat → Int32
  | 0 => a
  | n + 1 => adA a f n + f n
/-- an act is for a product by itself -/
def sFor (X : St) (a o : Nat) : Bool := decide (X 6 a ≤ X 1 0) && (decide (¬ X 3 a &&& X 14 o = 0) && decide (X 4 a &&& X 14 o = 0))
def pApp (X : St) (a o k : Nat) : Bool := !(decide (¬ X 7 (6 * k + a) = 0) && sFor X k o)
def sApp (X : St) (a o : Nat) : Bool := allA (sFor X a o) (pApp X a o) (cnt X 2)
def fAppl (X : St) (o k : Nat) : Int32 := if sApp X k o then (1 : Int32) <<< (nI k &&& 31) else 0
def sAppl (X : St) (o : Nat) : Int32 := orA 0 (fAppl X o) (cnt X 2)
def fAsks (X : St) (o k : Nat) : Int32 := if sApp X k o then X 5 k else 0
def sAsks (X : St) (o : Nat) : Int32 := orA 0 (fAsks X o) (cnt X 2)
def nbit (h : Nat) : Int32 := ((1 : Int32) <<< (nI h &&& 31)) ^^^ (-1)
def fDem (X : St) (o h : Nat) : Int32 := if X 16 (8 * o + h) = 0 then nbit h else -1
def sDem (X : St) (o : Nat) : Int32 := anA (sAsks X o) (fDem X o) 8
def fLow (X : St) (o h : Nat) : Int32 := if X 17 (8 * o + h) ≤ 4 then -1 else nbit h
def sLow (X : St) (o : Nat) : Int32 := anA (sDem X o) (fLow X o) 8
def fShown (X : St) (o k : Nat) : Int32 := if sIn (X 1 0) (X 11 k) (X 12 k) then X 18 (12 * o + k) &&& X 10 k else 0
def sShown (X : St) (o : Nat) : Int32 := orA (X 19 o) (fShown X o) (cnt X 9)
def sKept (X : St) (o : Nat) : Int32 := sLow X o &&& sShown X o
def sRisk (X : St) (o h : Nat) : Int32 := if (sDem X o >>> (nI h &&& 31)) &&& 1 = 1 then X 16 (8 * o + h) else 0
def sMost (X : St) (o : Nat) : Nat → Int32
  | 0 => 0
  | n + 1 => if sRisk X o n ≤ sMost X o n then sMost X o n else sRisk X o n
def sWay (X : St) (o : Nat) : Int32 := if sMost X o 8 ≤ 6 then (if sMost X o 8 ≤ 3 then 0 else 1) else 2
def sScope (X : St) (b o : Nat) : Bool := decide (sAppl X o &&& (X 26 b ^^^ (-1)) = 0)
def sHolds (X : St) (o : Nat) : Bool := decide (¬ X 20 o = -1) && (decide (X 1 0 ≤ X 21 o) && (sScope X (X 20 o).toNatClampNeg o && (decide (X 27 (X 20 o).toNatClampNeg = -1) || decide (X 1 0 ≤ X 27 (X 20 o).toNatClampNeg + 100))))
def fBit (x : Int32) (k : Nat) : Int32 := (x >>> (nI k &&& 31)) &&& 1
def sBits (x : Int32) : Int32 := adA 0 (fBit x) 8
def sWant (X : St) (o : Nat) : Int32 :=
  if 3 ≤ sBits (X 24 o) then 1 else if ¬ sLow X o = sDem X o then 2 else if ¬ sKept X o = sDem X o then 3
  else if ¬ sWay X o = 0 ∧ sHolds X o = false then 4 else if sWay X o = 2 ∧ (X 22 o = -1 ∨ ¬ X 1 0 ≤ X 22 o + 365) then 5
  else if ¬ sDem X o = 0 ∧ X 23 o = -1 then 6 else 0
/-- what the reference shows and keeps: c the number of the exception (0: none) -/
def mS (c : Int32) (S : St) (u : St → St) : St := if c = 0 then u (sU S 0 0 0) else sU S 0 0 c
def mR (c r : Int32) : Int32 := if c = 0 then r else 0
/-- a count and its bound -/
def CN (S : St) (f N : Nat) : Prop := S f 0 = nI (cnt S f) ∧ cnt S f ≤ N
section NR
variable {D : va_G} {tys : List (ClassId × FieldType)} {H0 : Heap} {p : Program} {l : Launch} {e : Env} {R : Room} {s : State} {m : MethodId} {args : Array Value} {below : List Frame} {meth : Method} {c : Code} {own : String} {cc : ByteArray} {nL : Nat} {ret : Option FieldType} {nm : String} {tb : List ExceptionTableEntry} {Q : State → Prop} {ad : Nat → Nat} {h : Hp} {cells slots pc : Nat} {lv lv' : List (Nat × Value)} {st : List Value}
theorem wa_iaddN (F : FX D tys H0 p l s m args meth c own cc nL ret nm tb) {x y : Int32} {a b : Nat} (d : decode cc pc = .ok (.iadd, 1)) (hx : x = nI a) (hy : y = nI b)
    (K : WA D H0 p l e R s m args below meth c nL Q ad h cells slots (pc + 1) lv (.int (nI (a + b)) :: st)) : WA D H0 p l e R s m args below meth c nL Q ad h cells slots pc lv (.int y :: .int x :: st) := by
  subst hx; subst hy
  refine wa_iadd F d ?_
  rw [nI_add]; exact K
theorem wa_imulN (F : FX D tys H0 p l s m args meth c own cc nL ret nm tb) {x y : Int32} {a b : Nat} (d : decode cc pc = .ok (.imul, 1)) (hx : x = nI a) (hy : y = nI b)
    (K : WA D H0 p l e R s m args below meth c nL Q ad h cells slots (pc + 1) lv (.int (nI (a * b)) :: st)) : WA D H0 p l e R s m args below meth c nL Q ad h cells slots pc lv (.int y :: .int x :: st) := by
  subst hx; subst hy
  refine wa_imul F d ?_
  rw [pk_mul]; exact K
end NR
end
section
theorem nle_k {x : Int32} {N k : Nat} (hx : x = nI N) (hN : N < 2 ^ 31) (hk : k < 2 ^ 31) (h : x ≤ nI k) : N ≤ k := by subst hx; exact (nI_leI hN hk).mp h
theorem knle {x : Int32} {N k : Nat} (hx : x = nI N) (hN : N < 2 ^ 31) (hk : k < 2 ^ 31) (h : ¬ x ≤ nI k) : k < N := by subst hx; exact Nat.lt_of_not_le fun z => h ((nI_leI hN hk).mpr z)
set_option maxHeartbeats 2000000 in
set_option maxRecDepth 20000 in
theorem c_X6_in {l : Launch} (hst : l.stackTraces = false) (D : va_G) (tys : List (ClassId × FieldType)) (H0 : Heap) (ad : Nat → Nat) (h : Hp) (v lo hi : Int32) : CC l D tys H0 yX6_in cX6_in 3 (some .boolean) 0 0 0 [.int v, .int lo, .int hi] ad h (PR ad (some (.int (bI (sIn v lo hi)))) h) (fun _ => False) := by
  refine cc_intro hst (by decide +kernel) (Nat.le_of_ble_eq_true rfl) ?_
  intro p e s m args below meth c F
  rw [show lv_args 0 [.int v, .int lo, .int hi] = [(0, .int v), (1, .int lo), (2, .int hi)] from rfl]
  refine wa_iload_n F dX6_in_0 (i := 0) rfl 0 rfl ?_
  refine wa_iload_n F dX6_in_1 (i := 1) rfl 1 rfl ?_
  refine wa_icmp_lt (tgt := 14) F dX6_in_2 (by decide) (fun c2 => ?_) (fun c2 => ?_)
  · skip
    replace c2 := lt_nle c2
    refine wa_iconst (v := 0) F dX6_in_14 (by decide) ?_
    refine wa_iret F rfl (Nat.le_of_ble_eq_true rfl) (Nat.le_of_ble_eq_true rfl) dX6_in_15 ?_
    exact ⟨congrArg (fun z => some (Value.int z)) (by simp [sIn, bI, c2]), rfl, rfl⟩
  · skip
    replace c2 := nlt_le c2
    refine wa_iload_n F dX6_in_5 (i := 0) rfl 0 rfl ?_
    refine wa_iload_n F dX6_in_6 (i := 2) rfl 2 rfl ?_
    refine wa_icmp_gt (tgt := 14) F dX6_in_7 (by decide) (fun c7 => ?_) (fun c7 => ?_)
    · skip
      replace c7 := lt_nle c7
      refine wa_iconst (v := 0) F dX6_in_14 (by decide) ?_
      refine wa_iret F rfl (Nat.le_of_ble_eq_true rfl) (Nat.le_of_ble_eq_true rfl) dX6_in_15 ?_
      exact ⟨congrArg (fun z => some (Value.int z)) (by simp [sIn, bI, c2, c7]), rfl, rfl⟩
    · skip
      replace c7 := nlt_le c7
      refine wa_iconst (v := 1) F dX6_in_10 (by decide) ?_
      refine wa_goto (tgt := 15) F dX6_in_11 (by decide) ?_
      refine wa_iret F rfl (Nat.le_of_ble_eq_true rfl) (Nat.le_of_ble_eq_true rfl) dX6_in_15 ?_
      exact ⟨congrArg (fun z => some (Value.int z)) (by simp [sIn, bI, c2, c7]), rfl, rfl⟩
set_option maxHeartbeats 2000000 in
set_option maxRecDepth 20000 in
theorem c_X6_refused {l : Launch} (hst : l.stackTraces = false) (D : va_G) (TC : Nat → ClassId) (H0 : Heap) (ad : Nat → Nat) (X S : St) (o : Nat → Int64) (w : Int32) : CC l D (tysOf TC) H0 yX6_refused cX6_refused 2 (some .boolean) 0 0 0 [.ref 2, .int w] ad (hall TC X S o) (PR ad (some (.int (bI (decide (¬ w = 0))))) (hall TC X (sU S 0 0 w) o)) (fun _ => False) := by
  refine cc_intro hst (by decide +kernel) (Nat.le_of_ble_eq_true rfl) ?_
  intro p e s m args below meth c F
  rw [show lv_args 0 [.ref 2, .int w] = [(0, .ref 2), (1, .int w)] from rfl]
  refine wa_aload_n F dX6_refused_0 (i := 0) rfl 0 rfl ?_
  refine wa_iload_n F dX6_refused_1 (i := 1) rfl 1 rfl ?_
  refine wa_putf F LY_X6 hm_m 0 (by decide) fl_X6_104 rfl rfl rfl (Nat.le_of_ble_eq_true rfl) dX6_refused_2 (hs_0 w) ?_
  refine wa_iload_n F dX6_refused_5 (i := 1) rfl 1 rfl ?_
  refine wa_if_eq (tgt := 13) F dX6_refused_6 (by decide) (fun c6 => ?_) (fun c6 => ?_)
  · skip
    refine wa_iconst (v := 0) F dX6_refused_13 (by decide) ?_
    refine wa_iret F rfl (Nat.le_of_ble_eq_true rfl) (Nat.le_of_ble_eq_true rfl) dX6_refused_14 ?_
    exact ⟨congrArg (fun z => some (Value.int z)) (by simp [bI, c6]), rfl, rfl⟩
  · skip
    refine wa_iconst (v := 1) F dX6_refused_9 (by decide) ?_
    refine wa_goto (tgt := 14) F dX6_refused_10 (by decide) ?_
    refine wa_iret F rfl (Nat.le_of_ble_eq_true rfl) (Nat.le_of_ble_eq_true rfl) dX6_refused_14 ?_
    exact ⟨congrArg (fun z => some (Value.int z)) (by simp [bI, c6]), rfl, rfl⟩
set_option maxHeartbeats 2000000 in
set_option maxRecDepth 20000 in
theorem c_X6_isAct {l : Launch} (hst : l.stackTraces = false) (D : va_G) (TC : Nat → ClassId) (H0 : Heap) (ad : Nat → Nat) (X S : St) (o : Nat → Int64) (v : Int32) : CC l D (tysOf TC) H0 yX6_isAct cX6_isAct 2 (some .boolean) 1 0 0 [.ref 2, .int v] ad (hall TC X S o) (PR ad (some (.int (bI (sIn v 0 (S 2 0 - 1))))) (hall TC X S o)) (fun _ => False) := by
  refine cc_intro hst (by decide +kernel) (Nat.le_of_ble_eq_true rfl) ?_
  intro p e s m args below meth c F
  rw [show lv_args 0 [.ref 2, .int v] = [(0, .ref 2), (1, .int v)] from rfl]
  refine wa_iload_n F dX6_isAct_0 (i := 1) rfl 1 rfl ?_
  refine wa_iconst (v := 0) F dX6_isAct_1 (by decide) ?_
  refine wa_aload_n F dX6_isAct_2 (i := 0) rfl 0 rfl ?_
  refine wa_getf (v := .int (S 2 0)) F LY_X6 hm_m 2 (by decide) fl_X6_108 rfl dX6_isAct_3 ?_
  refine wa_iconst (v := 1) F dX6_isAct_6 (by decide) ?_
  refine wa_isub F dX6_isAct_7 ?_
  refine wa_callS F [] (c_X6_in hst D (tysOf TC) H0 ad (hall TC X S o) v 0 ((S 2 0) - 1)) mw_X6_in ml_X6_111 rfl (Nat.le_of_ble_eq_true rfl) ⟨Nat.le_of_ble_eq_true rfl, Nat.le_of_ble_eq_true rfl⟩ ⟨Nat.le_of_ble_eq_true rfl, Nat.le_of_ble_eq_true rfl⟩ dX6_isAct_8 PR_ag (fun _ z => z.elim) ?_
  rintro _ _ _ ⟨rfl, rfl, rfl⟩
  refine wa_iret F (narrow_bI (sIn v 0 ((S 2 0) - 1))) (Nat.le_of_ble_eq_true rfl) (Nat.le_of_ble_eq_true rfl) dX6_isAct_11 ?_
  exact ⟨rfl, rfl, rfl⟩
set_option maxHeartbeats 2000000 in
set_option maxRecDepth 20000 in
theorem c_X6_isStandard {l : Launch} (hst : l.stackTraces = false) (D : va_G) (TC : Nat → ClassId) (H0 : Heap) (ad : Nat → Nat) (X S : St) (o : Nat → Int64) (v : Int32) : CC l D (tysOf TC) H0 yX6_isStandard cX6_isStandard 2 (some .boolean) 1 0 0 [.ref 2, .int v] ad (hall TC X S o) (PR ad (some (.int (bI (sIn v 0 (S 9 0 - 1))))) (hall TC X S o)) (fun _ => False) := by
  refine cc_intro hst (by decide +kernel) (Nat.le_of_ble_eq_true rfl) ?_
  intro p e s m args below meth c F
  rw [show lv_args 0 [.ref 2, .int v] = [(0, .ref 2), (1, .int v)] from rfl]
  refine wa_iload_n F dX6_isStandard_0 (i := 1) rfl 1 rfl ?_
  refine wa_iconst (v := 0) F dX6_isStandard_1 (by decide) ?_
  refine wa_aload_n F dX6_isStandard_2 (i := 0) rfl 0 rfl ?_
  refine wa_getf (v := .int (S 9 0)) F LY_X6 hm_m 9 (by decide) fl_X6_115 rfl dX6_isStandard_3 ?_
  refine wa_iconst (v := 1) F dX6_isStandard_6 (by decide) ?_
  refine wa_isub F dX6_isStandard_7 ?_
  refine wa_callS F [] (c_X6_in hst D (tysOf TC) H0 ad (hall TC X S o) v 0 ((S 9 0) - 1)) mw_X6_in ml_X6_111 rfl (Nat.le_of_ble_eq_true rfl) ⟨Nat.le_of_ble_eq_true rfl, Nat.le_of_ble_eq_true rfl⟩ ⟨Nat.le_of_ble_eq_true rfl, Nat.le_of_ble_eq_true rfl⟩ dX6_isStandard_8 PR_ag (fun _ z => z.elim) ?_
  rintro _ _ _ ⟨rfl, rfl, rfl⟩
  refine wa_iret F (narrow_bI (sIn v 0 ((S 9 0) - 1))) (Nat.le_of_ble_eq_true rfl) (Nat.le_of_ble_eq_true rfl) dX6_isStandard_11 ?_
  exact ⟨rfl, rfl, rfl⟩
set_option maxHeartbeats 2000000 in
set_option maxRecDepth 20000 in
theorem c_X6_isProduct {l : Launch} (hst : l.stackTraces = false) (D : va_G) (TC : Nat → ClassId) (H0 : Heap) (ad : Nat → Nat) (X S : St) (o : Nat → Int64) (v : Int32) : CC l D (tysOf TC) H0 yX6_isProduct cX6_isProduct 2 (some .boolean) 1 0 0 [.ref 2, .int v] ad (hall TC X S o) (PR ad (some (.int (bI (sIn v 0 (S 13 0 - 1))))) (hall TC X S o)) (fun _ => False) := by
  refine cc_intro hst (by decide +kernel) (Nat.le_of_ble_eq_true rfl) ?_
  intro p e s m args below meth c F
  rw [show lv_args 0 [.ref 2, .int v] = [(0, .ref 2), (1, .int v)] from rfl]
  refine wa_iload_n F dX6_isProduct_0 (i := 1) rfl 1 rfl ?_
  refine wa_iconst (v := 0) F dX6_isProduct_1 (by decide) ?_
  refine wa_aload_n F dX6_isProduct_2 (i := 0) rfl 0 rfl ?_
  refine wa_getf (v := .int (S 13 0)) F LY_X6 hm_m 13 (by decide) fl_X6_118 rfl dX6_isProduct_3 ?_
  refine wa_iconst (v := 1) F dX6_isProduct_6 (by decide) ?_
  refine wa_isub F dX6_isProduct_7 ?_
  refine wa_callS F [] (c_X6_in hst D (tysOf TC) H0 ad (hall TC X S o) v 0 ((S 13 0) - 1)) mw_X6_in ml_X6_111 rfl (Nat.le_of_ble_eq_true rfl) ⟨Nat.le_of_ble_eq_true rfl, Nat.le_of_ble_eq_true rfl⟩ ⟨Nat.le_of_ble_eq_true rfl, Nat.le_of_ble_eq_true rfl⟩ dX6_isProduct_8 PR_ag (fun _ z => z.elim) ?_
  rintro _ _ _ ⟨rfl, rfl, rfl⟩
  refine wa_iret F (narrow_bI (sIn v 0 ((S 13 0) - 1))) (Nat.le_of_ble_eq_true rfl) (Nat.le_of_ble_eq_true rfl) dX6_isProduct_11 ?_
  exact ⟨rfl, rfl, rfl⟩
set_option maxHeartbeats 2000000 in
set_option maxRecDepth 20000 in
theorem c_X6_isBody {l : Launch} (hst : l.stackTraces = false) (D : va_G) (TC : Nat → ClassId) (H0 : Heap) (ad : Nat → Nat) (X S : St) (o : Nat → Int64) (v : Int32) : CC l D (tysOf TC) H0 yX6_isBody cX6_isBody 2 (some .boolean) 1 0 0 [.ref 2, .int v] ad (hall TC X S o) (PR ad (some (.int (bI (sIn v 0 (S 25 0 - 1))))) (hall TC X S o)) (fun _ => False) := by
  refine cc_intro hst (by decide +kernel) (Nat.le_of_ble_eq_true rfl) ?_
  intro p e s m args below meth c F
  rw [show lv_args 0 [.ref 2, .int v] = [(0, .ref 2), (1, .int v)] from rfl]
  refine wa_iload_n F dX6_isBody_0 (i := 1) rfl 1 rfl ?_
  refine wa_iconst (v := 0) F dX6_isBody_1 (by decide) ?_
  refine wa_aload_n F dX6_isBody_2 (i := 0) rfl 0 rfl ?_
  refine wa_getf (v := .int (S 25 0)) F LY_X6 hm_m 25 (by decide) fl_X6_121 rfl dX6_isBody_3 ?_
  refine wa_iconst (v := 1) F dX6_isBody_6 (by decide) ?_
  refine wa_isub F dX6_isBody_7 ?_
  refine wa_callS F [] (c_X6_in hst D (tysOf TC) H0 ad (hall TC X S o) v 0 ((S 25 0) - 1)) mw_X6_in ml_X6_111 rfl (Nat.le_of_ble_eq_true rfl) ⟨Nat.le_of_ble_eq_true rfl, Nat.le_of_ble_eq_true rfl⟩ ⟨Nat.le_of_ble_eq_true rfl, Nat.le_of_ble_eq_true rfl⟩ dX6_isBody_8 PR_ag (fun _ z => z.elim) ?_
  rintro _ _ _ ⟨rfl, rfl, rfl⟩
  refine wa_iret F (narrow_bI (sIn v 0 ((S 25 0) - 1))) (Nat.le_of_ble_eq_true rfl) (Nat.le_of_ble_eq_true rfl) dX6_isBody_11 ?_
  exact ⟨rfl, rfl, rfl⟩
set_option maxHeartbeats 2000000 in
set_option maxRecDepth 20000 in
theorem c_X6_isBatch {l : Launch} (hst : l.stackTraces = false) (D : va_G) (TC : Nat → ClassId) (H0 : Heap) (ad : Nat → Nat) (X S : St) (o : Nat → Int64) (v : Int32) : CC l D (tysOf TC) H0 yX6_isBatch cX6_isBatch 2 (some .boolean) 1 0 0 [.ref 2, .int v] ad (hall TC X S o) (PR ad (some (.int (bI (sIn v 0 (S 28 0 - 1))))) (hall TC X S o)) (fun _ => False) := by
  refine cc_intro hst (by decide +kernel) (Nat.le_of_ble_eq_true rfl) ?_
  intro p e s m args below meth c F
  rw [show lv_args 0 [.ref 2, .int v] = [(0, .ref 2), (1, .int v)] from rfl]
  refine wa_iload_n F dX6_isBatch_0 (i := 1) rfl 1 rfl ?_
  refine wa_iconst (v := 0) F dX6_isBatch_1 (by decide) ?_
  refine wa_aload_n F dX6_isBatch_2 (i := 0) rfl 0 rfl ?_
  refine wa_getf (v := .int (S 28 0)) F LY_X6 hm_m 28 (by decide) fl_X6_124 rfl dX6_isBatch_3 ?_
  refine wa_iconst (v := 1) F dX6_isBatch_6 (by decide) ?_
  refine wa_isub F dX6_isBatch_7 ?_
  refine wa_callS F [] (c_X6_in hst D (tysOf TC) H0 ad (hall TC X S o) v 0 ((S 28 0) - 1)) mw_X6_in ml_X6_111 rfl (Nat.le_of_ble_eq_true rfl) ⟨Nat.le_of_ble_eq_true rfl, Nat.le_of_ble_eq_true rfl⟩ ⟨Nat.le_of_ble_eq_true rfl, Nat.le_of_ble_eq_true rfl⟩ dX6_isBatch_8 PR_ag (fun _ z => z.elim) ?_
  rintro _ _ _ ⟨rfl, rfl, rfl⟩
  refine wa_iret F (narrow_bI (sIn v 0 ((S 28 0) - 1))) (Nat.le_of_ble_eq_true rfl) (Nat.le_of_ble_eq_true rfl) dX6_isBatch_11 ?_
  exact ⟨rfl, rfl, rfl⟩
set_option maxHeartbeats 2000000 in
set_option maxRecDepth 20000 in
theorem c_X6_bits {l : Launch} (hst : l.stackTraces = false) (D : va_G) (tys : List (ClassId × FieldType)) (H0 : Heap) (ad : Nat → Nat) (h : Hp) (v : Int32) : CC l D tys H0 yX6_bits cX6_bits 3 (some .int) 0 0 0 [.int v] ad h (PR ad (some (.int (sBits v))) h) (fun _ => False) := by
  refine cc_intro hst (by decide +kernel) (Nat.le_of_ble_eq_true rfl) ?_
  intro p e s m args below meth c F
  rw [show lv_args 0 [.int v] = [(0, .int v)] from rfl]
  refine wa_iconst (v := 0) F dX6_bits_0 (by decide) ?_
  refine wa_istore_n (lv' := [(1, .int 0), (0, .int v)]) F dX6_bits_1 (i := 1) rfl (by decide) rfl ?_
  refine wa_iconst (v := 0) F dX6_bits_2 (by decide) ?_
  refine wa_istore_n (lv' := [(2, .int 0), (1, .int 0), (0, .int v)]) F dX6_bits_3 (i := 2) rfl (by decide) rfl ?_
  have loop4 : ∀ (n k : Nat), k ≤ 8 → 8 - k < n → WA D H0 p l e (RM 0 0 0) s m args below meth c 3 (vx_MQ below (QC0 D H0 (PR ad (some (.int (sBits v))) h)) (XC0 D H0 (fun _ => False) ad h) args s 0 0 (hA0 H0)) ad h 0 0 4 [(2, .int (nI k)), (1, .int (adA 0 (fBit v) k)), (0, .int v)] [] := by
    intro n
    induction n with
    | zero => intro k h1 h2; omega
    | succ n ih =>
      intro k hk_k hn_k
      refine wa_iload_n F dX6_bits_4 (i := 2) rfl 0 rfl ?_
      refine wa_bipush (v := 8) F dX6_bits_5 (by decide) ?_
      refine wa_icmp_ge (tgt := 24) F dX6_bits_7 (by decide) (fun c7 => ?_) (fun c7 => ?_)
      · skip
        have he_k : k = 8 := Nat.le_antisymm hk_k (nle_k rfl (by omega) (by omega) c7)
        subst he_k
        refine wa_iload_n F dX6_bits_24 (i := 1) rfl 1 rfl ?_
        refine wa_iret F rfl (Nat.le_of_ble_eq_true rfl) (Nat.le_of_ble_eq_true rfl) dX6_bits_25 ?_
        exact ⟨rfl, rfl, rfl⟩
      · skip
        have hl_k : k < 8 := knle rfl (by omega) (by omega) c7
        refine wa_iload_n F dX6_bits_10 (i := 1) rfl 1 rfl ?_
        refine wa_iload_n F dX6_bits_11 (i := 0) rfl 2 rfl ?_
        refine wa_iload_n F dX6_bits_12 (i := 2) rfl 0 rfl ?_
        refine wa_ishr F dX6_bits_13 ?_
        refine wa_iconst (v := 1) F dX6_bits_14 (by decide) ?_
        refine wa_iand F dX6_bits_15 ?_
        refine wa_iadd F dX6_bits_16 ?_
        refine wa_istore_n (lv' := [(1, .int ((adA 0 (fBit v) k) + ((v >>> ((nI k) &&& 31)) &&& 1))), (2, .int (nI k)), (0, .int v)]) F dX6_bits_17 (i := 1) rfl (by decide) rfl ?_
        refine wa_iinc (v := (nI (k + 1))) (j := 1) (lv' := [(2, .int (nI (k + 1))), (1, .int ((adA 0 (fBit v) k) + ((v >>> ((nI k) &&& 31)) &&& 1))), (0, .int v)]) F dX6_bits_18 rfl ((nI_succ k).symm) (by decide) rfl ?_
        refine wa_goto (tgt := 4) F dX6_bits_21 (by decide) ?_
        have ea1 : ((adA 0 (fBit v) k) + ((v >>> ((nI k) &&& 31)) &&& 1)) = (adA 0 (fBit v) (k + 1)) := rfl
        refine wa_lv (lv' := [(2, .int (nI (k + 1))), (1, .int (adA 0 (fBit v) (k + 1))), (0, .int v)]) [0, 1, 2] (by rw [← ea1]; rfl) ?_
        exact ih (k + 1) (by omega) (by omega)
  exact loop4 (8 + 1) 0 (Nat.zero_le _) (by omega)
set_option maxHeartbeats 2000000 in
set_option maxRecDepth 20000 in
theorem c_X6_isFor {l : Launch} (hst : l.stackTraces = false) (D : va_G) (TC : Nat → ClassId) (H0 : Heap) (ad : Nat → Nat) (X S : St) (o : Nat → Int64) (a b : Nat) (ha : a < 6) (hb : b < 10) : CC l D (tysOf TC) H0 yX6_isFor cX6_isFor 3 (some .boolean) 0 0 0 [.ref 2, .int (nI a), .int (nI b)] ad (hall TC X S o) (PR ad (some (.int (bI (sFor S a b)))) (hall TC X S o)) (fun _ => False) := by
  refine cc_intro hst (by decide +kernel) (Nat.le_of_ble_eq_true rfl) ?_
  intro p e s m args below meth c F
  rw [show lv_args 0 [.ref 2, .int (nI a), .int (nI b)] = [(0, .ref 2), (1, .int (nI a)), (2, .int (nI b))] from rfl]
  refine wa_aload_n F dX6_isFor_0 (i := 0) rfl 0 rfl ?_
  refine wa_getf (v := .ref 106) F LY_X6 hm_m 6 (by decide) fl_X6_19 rfl dX6_isFor_1 ?_
  refine wa_iload_n F dX6_isFor_4 (i := 1) rfl 1 rfl ?_
  refine wa_iald (f := S 6) F 0 rfl hm_6 a rfl (by omega) (by decide) dX6_isFor_5 ?_
  refine wa_aload_n F dX6_isFor_6 (i := 0) rfl 0 rfl ?_
  refine wa_getf (v := .int (S 1 0)) F LY_X6 hm_m 1 (by decide) fl_X6_142 rfl dX6_isFor_7 ?_
  refine wa_icmp_gt (tgt := 49) F dX6_isFor_10 (by decide) (fun c10 => ?_) (fun c10 => ?_)
  · skip
    replace c10 := lt_nle c10
    refine wa_iconst (v := 0) F dX6_isFor_49 (by decide) ?_
    refine wa_iret F rfl (Nat.le_of_ble_eq_true rfl) (Nat.le_of_ble_eq_true rfl) dX6_isFor_50 ?_
    exact ⟨congrArg (fun z => some (Value.int z)) (by simp [sFor, bI, c10]), rfl, rfl⟩
  · skip
    replace c10 := nlt_le c10
    refine wa_aload_n F dX6_isFor_13 (i := 0) rfl 0 rfl ?_
    refine wa_getf (v := .ref 103) F LY_X6 hm_m 3 (by decide) fl_X6_7 rfl dX6_isFor_14 ?_
    refine wa_iload_n F dX6_isFor_17 (i := 1) rfl 1 rfl ?_
    refine wa_iald (f := S 3) F 0 rfl hm_3 a rfl (by omega) (by decide) dX6_isFor_18 ?_
    refine wa_aload_n F dX6_isFor_19 (i := 0) rfl 0 rfl ?_
    refine wa_getf (v := .ref 114) F LY_X6 hm_m 14 (by decide) fl_X6_38 rfl dX6_isFor_20 ?_
    refine wa_iload_n F dX6_isFor_23 (i := 2) rfl 2 rfl ?_
    refine wa_iald (f := S 14) F 0 rfl hm_14 b rfl (by omega) (by decide) dX6_isFor_24 ?_
    refine wa_iand F dX6_isFor_25 ?_
    refine wa_if_eq (tgt := 49) F dX6_isFor_26 (by decide) (fun c26 => ?_) (fun c26 => ?_)
    · skip
      refine wa_iconst (v := 0) F dX6_isFor_49 (by decide) ?_
      refine wa_iret F rfl (Nat.le_of_ble_eq_true rfl) (Nat.le_of_ble_eq_true rfl) dX6_isFor_50 ?_
      exact ⟨congrArg (fun z => some (Value.int z)) (by simp [sFor, bI, c10, c26]), rfl, rfl⟩
    · skip
      refine wa_aload_n F dX6_isFor_29 (i := 0) rfl 0 rfl ?_
      refine wa_getf (v := .ref 104) F LY_X6 hm_m 4 (by decide) fl_X6_13 rfl dX6_isFor_30 ?_
      refine wa_iload_n F dX6_isFor_33 (i := 1) rfl 1 rfl ?_
      refine wa_iald (f := S 4) F 0 rfl hm_4 a rfl (by omega) (by decide) dX6_isFor_34 ?_
      refine wa_aload_n F dX6_isFor_35 (i := 0) rfl 0 rfl ?_
      refine wa_getf (v := .ref 114) F LY_X6 hm_m 14 (by decide) fl_X6_38 rfl dX6_isFor_36 ?_
      refine wa_iload_n F dX6_isFor_39 (i := 2) rfl 2 rfl ?_
      refine wa_iald (f := S 14) F 0 rfl hm_14 b rfl (by omega) (by decide) dX6_isFor_40 ?_
      refine wa_iand F dX6_isFor_41 ?_
      refine wa_if_ne (tgt := 49) F dX6_isFor_42 (by decide) (fun c42 => ?_) (fun c42 => ?_)
      · skip
        refine wa_iconst (v := 0) F dX6_isFor_49 (by decide) ?_
        refine wa_iret F rfl (Nat.le_of_ble_eq_true rfl) (Nat.le_of_ble_eq_true rfl) dX6_isFor_50 ?_
        exact ⟨congrArg (fun z => some (Value.int z)) (by simp [sFor, bI, c10, c26, c42]), rfl, rfl⟩
      · skip
        refine wa_iconst (v := 1) F dX6_isFor_45 (by decide) ?_
        refine wa_goto (tgt := 50) F dX6_isFor_46 (by decide) ?_
        refine wa_iret F rfl (Nat.le_of_ble_eq_true rfl) (Nat.le_of_ble_eq_true rfl) dX6_isFor_50 ?_
        exact ⟨congrArg (fun z => some (Value.int z)) (by simp [sFor, bI, c10, c26, c42]), rfl, rfl⟩
set_option maxHeartbeats 2000000 in
set_option maxRecDepth 20000 in
theorem c_X6_doesApply {l : Launch} (hst : l.stackTraces = false) (D : va_G) (TC : Nat → ClassId) (H0 : Heap) (ad : Nat → Nat) (X S : St) (o : Nat → Int64) (a b : Nat) (ha : a < 6) (hb : b < 10) (hc : CN S 2 6) : CC l D (tysOf TC) H0 yX6_doesApply cX6_doesApply 5 (some .boolean) 1 0 0 [.ref 2, .int (nI a), .int (nI b)] ad (hall TC X S o) (PR ad (some (.int (bI (sApp S a b)))) (hall TC X S o)) (fun _ => False) := by
  refine cc_intro hst (by decide +kernel) (Nat.le_of_ble_eq_true rfl) ?_
  intro p e s m args below meth c F
  rw [show lv_args 0 [.ref 2, .int (nI a), .int (nI b)] = [(0, .ref 2), (1, .int (nI a)), (2, .int (nI b))] from rfl]
  have hc2 := hc.2
  refine wa_aload_n F dX6_doesApply_0 (i := 0) rfl 0 rfl ?_
  refine wa_iload_n F dX6_doesApply_1 (i := 1) rfl 1 rfl ?_
  refine wa_iload_n F dX6_doesApply_2 (i := 2) rfl 2 rfl ?_
  refine wa_callV F [] (c_X6_isFor hst D TC H0 ad X S o a b (by omega) (by omega)) mw_X6_isFor ml_X6_152 hm_m rfl rfl (Nat.le_of_ble_eq_true rfl) ⟨Nat.le_of_ble_eq_true rfl, Nat.le_of_ble_eq_true rfl⟩ ⟨Nat.le_of_ble_eq_true rfl, Nat.le_of_ble_eq_true rfl⟩ dX6_doesApply_3 PR_ag (fun _ z => z.elim) ?_
  rintro _ _ _ ⟨rfl, rfl, rfl⟩
  refine wa_istore_n (lv' := [(3, .int (bI (sFor S a b))), (0, .ref 2), (1, .int (nI a)), (2, .int (nI b))]) F dX6_doesApply_6 (i := 3) rfl (by decide) rfl ?_
  refine wa_iconst (v := 0) F dX6_doesApply_7 (by decide) ?_
  refine wa_istore (lv' := [(4, .int 0), (3, .int (bI (sFor S a b))), (0, .ref 2), (1, .int (nI a)), (2, .int (nI b))]) F dX6_doesApply_8 (by decide) rfl ?_
  have loop10 : ∀ (n k : Nat), k ≤ (cnt S 2) → (cnt S 2) - k < n → WA D H0 p l e (RM 1 0 0) s m args below meth c 5 (vx_MQ below (QC0 D H0 (PR ad (some (.int (bI (sApp S a b)))) (hall TC X S o))) (XC0 D H0 (fun _ => False) ad (hall TC X S o)) args s 0 0 (hA0 H0)) ad (hall TC X S o) 0 0 10 [(4, .int (nI k)), (3, .int (bI (allA (sFor S a b) (pApp S a b) k))), (0, .ref 2), (1, .int (nI a)), (2, .int (nI b))] [] := by
    intro n
    induction n with
    | zero => intro k h1 h2; omega
    | succ n ih =>
      intro k hk_k hn_k
      refine wa_iload F dX6_doesApply_10 0 rfl ?_
      refine wa_aload_n F dX6_doesApply_12 (i := 0) rfl 2 rfl ?_
      refine wa_getf (v := .int (S 2 0)) F LY_X6 hm_m 2 (by decide) fl_X6_108 rfl dX6_doesApply_13 ?_
      refine wa_icmp_ge (tgt := 60) F dX6_doesApply_16 (by decide) (fun c16 => ?_) (fun c16 => ?_)
      · skip
        have he_k : k = (cnt S 2) := Nat.le_antisymm hk_k (nle_k hc.1 (by omega) (by omega) c16)
        subst he_k
        refine wa_iload_n F dX6_doesApply_60 (i := 3) rfl 1 rfl ?_
        refine wa_iret F (narrow_bI (allA (sFor S a b) (pApp S a b) (cnt S 2))) (Nat.le_of_ble_eq_true rfl) (Nat.le_of_ble_eq_true rfl) dX6_doesApply_61 ?_
        exact ⟨rfl, rfl, rfl⟩
      · skip
        have hl_k : k < (cnt S 2) := knle hc.1 (by omega) (by omega) c16
        refine wa_iload_n F dX6_doesApply_19 (i := 3) rfl 1 rfl ?_
        refine wa_if_eq (tgt := 52) F dX6_doesApply_20 (by decide) (fun c20 => ?_) (fun c20 => ?_)
        · skip
          replace c20 : (allA (sFor S a b) (pApp S a b) k) = false := bI_f c20
          refine wa_iconst (v := 0) F dX6_doesApply_52 (by decide) ?_
          refine wa_istore_n (lv' := [(3, .int 0), (4, .int (nI k)), (0, .ref 2), (1, .int (nI a)), (2, .int (nI b))]) F dX6_doesApply_53 (i := 3) rfl (by decide) rfl ?_
          refine wa_iinc (v := (nI (k + 1))) (j := 1) (lv' := [(4, .int (nI (k + 1))), (3, .int 0), (0, .ref 2), (1, .int (nI a)), (2, .int (nI b))]) F dX6_doesApply_54 rfl ((nI_succ k).symm) (by decide) rfl ?_
          refine wa_goto (tgt := 10) F dX6_doesApply_57 (by decide) ?_
          have ea1 : 0 = (bI (allA (sFor S a b) (pApp S a b) (k + 1))) := by simp [allA, pApp, bI, hl_k, c20]
          refine wa_lv (lv' := [(4, .int (nI (k + 1))), (3, .int (bI (allA (sFor S a b) (pApp S a b) (k + 1)))), (0, .ref 2), (1, .int (nI a)), (2, .int (nI b))]) [0, 1, 2, 3, 4] (by rw [← ea1]; rfl) ?_
          exact ih (k + 1) (by omega) (by omega)
        · skip
          replace c20 : (allA (sFor S a b) (pApp S a b) k) = true := bI_t c20
          refine wa_aload_n F dX6_doesApply_23 (i := 0) rfl 2 rfl ?_
          refine wa_getf (v := .ref 107) F LY_X6 hm_m 7 (by decide) fl_X6_22 rfl dX6_doesApply_24 ?_
          refine wa_bipush (v := 6) F dX6_doesApply_27 (by decide) ?_
          refine wa_iload F dX6_doesApply_29 0 rfl ?_
          refine wa_imulN F dX6_doesApply_31 (a := 6) (b := k) rfl rfl ?_
          refine wa_iload_n F dX6_doesApply_32 (i := 1) rfl 3 rfl ?_
          refine wa_iaddN F dX6_doesApply_33 (a := 6 * k) (b := a) rfl rfl ?_
          refine wa_zald (f := S 7) F 2 rfl hm_7 ((6 * k) + a) rfl (by omega) (by decide) dX6_doesApply_34 ?_
          refine wa_if_eq (tgt := 48) F dX6_doesApply_35 (by decide) (fun c35 => ?_) (fun c35 => ?_)
          · skip
            refine wa_iconst (v := 1) F dX6_doesApply_48 (by decide) ?_
            refine wa_goto (tgt := 53) F dX6_doesApply_49 (by decide) ?_
            refine wa_istore_n (lv' := [(3, .int 1), (4, .int (nI k)), (0, .ref 2), (1, .int (nI a)), (2, .int (nI b))]) F dX6_doesApply_53 (i := 3) rfl (by decide) rfl ?_
            refine wa_iinc (v := (nI (k + 1))) (j := 1) (lv' := [(4, .int (nI (k + 1))), (3, .int 1), (0, .ref 2), (1, .int (nI a)), (2, .int (nI b))]) F dX6_doesApply_54 rfl ((nI_succ k).symm) (by decide) rfl ?_
            refine wa_goto (tgt := 10) F dX6_doesApply_57 (by decide) ?_
            have ea2 : 1 = (bI (allA (sFor S a b) (pApp S a b) (k + 1))) := by simp [allA, pApp, bI, hl_k, c20, c35]
            refine wa_lv (lv' := [(4, .int (nI (k + 1))), (3, .int (bI (allA (sFor S a b) (pApp S a b) (k + 1)))), (0, .ref 2), (1, .int (nI a)), (2, .int (nI b))]) [0, 1, 2, 3, 4] (by rw [← ea2]; rfl) ?_
            exact ih (k + 1) (by omega) (by omega)
          · skip
            refine wa_aload_n F dX6_doesApply_38 (i := 0) rfl 2 rfl ?_
            refine wa_iload F dX6_doesApply_39 0 rfl ?_
            refine wa_iload_n F dX6_doesApply_41 (i := 2) rfl 4 rfl ?_
            refine wa_callV F [] (c_X6_isFor hst D TC H0 ad X S o k b (by omega) (by omega)) mw_X6_isFor ml_X6_152 hm_m rfl rfl (Nat.le_of_ble_eq_true rfl) ⟨Nat.le_of_ble_eq_true rfl, Nat.le_of_ble_eq_true rfl⟩ ⟨Nat.le_of_ble_eq_true rfl, Nat.le_of_ble_eq_true rfl⟩ dX6_doesApply_42 PR_ag (fun _ z => z.elim) ?_
            rintro _ _ _ ⟨rfl, rfl, rfl⟩
            refine wa_if_ne (tgt := 52) F dX6_doesApply_45 (by decide) (fun c45 => ?_) (fun c45 => ?_)
            · skip
              replace c45 : (sFor S k b) = true := bI_t c45
              refine wa_iconst (v := 0) F dX6_doesApply_52 (by decide) ?_
              refine wa_istore_n (lv' := [(3, .int 0), (4, .int (nI k)), (0, .ref 2), (1, .int (nI a)), (2, .int (nI b))]) F dX6_doesApply_53 (i := 3) rfl (by decide) rfl ?_
              refine wa_iinc (v := (nI (k + 1))) (j := 1) (lv' := [(4, .int (nI (k + 1))), (3, .int 0), (0, .ref 2), (1, .int (nI a)), (2, .int (nI b))]) F dX6_doesApply_54 rfl ((nI_succ k).symm) (by decide) rfl ?_
              refine wa_goto (tgt := 10) F dX6_doesApply_57 (by decide) ?_
              have ea3 : 0 = (bI (allA (sFor S a b) (pApp S a b) (k + 1))) := by simp [allA, pApp, bI, hl_k, c20, c35, c45]
              refine wa_lv (lv' := [(4, .int (nI (k + 1))), (3, .int (bI (allA (sFor S a b) (pApp S a b) (k + 1)))), (0, .ref 2), (1, .int (nI a)), (2, .int (nI b))]) [0, 1, 2, 3, 4] (by rw [← ea3]; rfl) ?_
              exact ih (k + 1) (by omega) (by omega)
            · skip
              replace c45 : (sFor S k b) = false := bI_f c45
              refine wa_iconst (v := 1) F dX6_doesApply_48 (by decide) ?_
              refine wa_goto (tgt := 53) F dX6_doesApply_49 (by decide) ?_
              refine wa_istore_n (lv' := [(3, .int 1), (4, .int (nI k)), (0, .ref 2), (1, .int (nI a)), (2, .int (nI b))]) F dX6_doesApply_53 (i := 3) rfl (by decide) rfl ?_
              refine wa_iinc (v := (nI (k + 1))) (j := 1) (lv' := [(4, .int (nI (k + 1))), (3, .int 1), (0, .ref 2), (1, .int (nI a)), (2, .int (nI b))]) F dX6_doesApply_54 rfl ((nI_succ k).symm) (by decide) rfl ?_
              refine wa_goto (tgt := 10) F dX6_doesApply_57 (by decide) ?_
              have ea4 : 1 = (bI (allA (sFor S a b) (pApp S a b) (k + 1))) := by simp [allA, pApp, bI, hl_k, c20, c35, c45]
              refine wa_lv (lv' := [(4, .int (nI (k + 1))), (3, .int (bI (allA (sFor S a b) (pApp S a b) (k + 1)))), (0, .ref 2), (1, .int (nI a)), (2, .int (nI b))]) [0, 1, 2, 3, 4] (by rw [← ea4]; rfl) ?_
              exact ih (k + 1) (by omega) (by omega)
  exact loop10 ((cnt S 2) + 1) 0 (Nat.zero_le _) (by omega)
set_option maxHeartbeats 2000000 in
set_option maxRecDepth 20000 in
theorem c_X6_applying {l : Launch} (hst : l.stackTraces = false) (D : va_G) (TC : Nat → ClassId) (H0 : Heap) (ad : Nat → Nat) (X S : St) (o : Nat → Int64) (b : Nat) (hb : b < 10) (hc : CN S 2 6) : CC l D (tysOf TC) H0 yX6_applying cX6_applying 4 (some .int) 2 0 0 [.ref 2, .int (nI b)] ad (hall TC X S o) (PR ad (some (.int (sAppl S b))) (hall TC X S o)) (fun _ => False) := by
  refine cc_intro hst (by decide +kernel) (Nat.le_of_ble_eq_true rfl) ?_
  intro p e s m args below meth c F
  rw [show lv_args 0 [.ref 2, .int (nI b)] = [(0, .ref 2), (1, .int (nI b))] from rfl]
  have hc2 := hc.2
  refine wa_iconst (v := 0) F dX6_applying_0 (by decide) ?_
  refine wa_istore_n (lv' := [(2, .int 0), (0, .ref 2), (1, .int (nI b))]) F dX6_applying_1 (i := 2) rfl (by decide) rfl ?_
  refine wa_iconst (v := 0) F dX6_applying_2 (by decide) ?_
  refine wa_istore_n (lv' := [(3, .int 0), (2, .int 0), (0, .ref 2), (1, .int (nI b))]) F dX6_applying_3 (i := 3) rfl (by decide) rfl ?_
  have loop4 : ∀ (n k : Nat), k ≤ (cnt S 2) → (cnt S 2) - k < n → WA D H0 p l e (RM 2 0 0) s m args below meth c 4 (vx_MQ below (QC0 D H0 (PR ad (some (.int (sAppl S b))) (hall TC X S o))) (XC0 D H0 (fun _ => False) ad (hall TC X S o)) args s 0 0 (hA0 H0)) ad (hall TC X S o) 0 0 4 [(3, .int (nI k)), (2, .int (orA 0 (fAppl S b) k)), (0, .ref 2), (1, .int (nI b))] [] := by
    intro n
    induction n with
    | zero => intro k h1 h2; omega
    | succ n ih =>
      intro k hk_k hn_k
      refine wa_iload_n F dX6_applying_4 (i := 3) rfl 0 rfl ?_
      refine wa_aload_n F dX6_applying_5 (i := 0) rfl 2 rfl ?_
      refine wa_getf (v := .int (S 2 0)) F LY_X6 hm_m 2 (by decide) fl_X6_108 rfl dX6_applying_6 ?_
      refine wa_icmp_ge (tgt := 37) F dX6_applying_9 (by decide) (fun c9 => ?_) (fun c9 => ?_)
      · skip
        have he_k : k = (cnt S 2) := Nat.le_antisymm hk_k (nle_k hc.1 (by omega) (by omega) c9)
        subst he_k
        refine wa_iload_n F dX6_applying_37 (i := 2) rfl 1 rfl ?_
        refine wa_iret F rfl (Nat.le_of_ble_eq_true rfl) (Nat.le_of_ble_eq_true rfl) dX6_applying_38 ?_
        exact ⟨rfl, rfl, rfl⟩
      · skip
        have hl_k : k < (cnt S 2) := knle hc.1 (by omega) (by omega) c9
        refine wa_iload_n F dX6_applying_12 (i := 2) rfl 1 rfl ?_
        refine wa_aload_n F dX6_applying_13 (i := 0) rfl 2 rfl ?_
        refine wa_iload_n F dX6_applying_14 (i := 3) rfl 0 rfl ?_
        refine wa_iload_n F dX6_applying_15 (i := 1) rfl 3 rfl ?_
        refine wa_callV F [.int (orA 0 (fAppl S b) k)] (c_X6_doesApply hst D TC H0 ad X S o k b (by omega) (by omega) hc) mw_X6_doesApply ml_X6_155 hm_m rfl rfl (Nat.le_of_ble_eq_true rfl) ⟨Nat.le_of_ble_eq_true rfl, Nat.le_of_ble_eq_true rfl⟩ ⟨Nat.le_of_ble_eq_true rfl, Nat.le_of_ble_eq_true rfl⟩ dX6_applying_16 PR_ag (fun _ z => z.elim) ?_
        rintro _ _ _ ⟨rfl, rfl, rfl⟩
        refine wa_if_eq (tgt := 28) F dX6_applying_19 (by decide) (fun c19 => ?_) (fun c19 => ?_)
        · skip
          replace c19 : (sApp S k b) = false := bI_f c19
          refine wa_iconst (v := 0) F dX6_applying_28 (by decide) ?_
          refine wa_ior F dX6_applying_29 ?_
          refine wa_istore_n (lv' := [(2, .int ((orA 0 (fAppl S b) k) ||| 0)), (3, .int (nI k)), (0, .ref 2), (1, .int (nI b))]) F dX6_applying_30 (i := 2) rfl (by decide) rfl ?_
          refine wa_iinc (v := (nI (k + 1))) (j := 1) (lv' := [(3, .int (nI (k + 1))), (2, .int ((orA 0 (fAppl S b) k) ||| 0)), (0, .ref 2), (1, .int (nI b))]) F dX6_applying_31 rfl ((nI_succ k).symm) (by decide) rfl ?_
          refine wa_goto (tgt := 4) F dX6_applying_34 (by decide) ?_
          have ea1 : ((orA 0 (fAppl S b) k) ||| 0) = (orA 0 (fAppl S b) (k + 1)) := by simp [orA, fAppl, c19]
          refine wa_lv (lv' := [(3, .int (nI (k + 1))), (2, .int (orA 0 (fAppl S b) (k + 1))), (0, .ref 2), (1, .int (nI b))]) [0, 1, 2, 3] (by rw [← ea1]; rfl) ?_
          exact ih (k + 1) (by omega) (by omega)
        · skip
          replace c19 : (sApp S k b) = true := bI_t c19
          refine wa_iconst (v := 1) F dX6_applying_22 (by decide) ?_
          refine wa_iload_n F dX6_applying_23 (i := 3) rfl 0 rfl ?_
          refine wa_ishl F dX6_applying_24 ?_
          refine wa_goto (tgt := 29) F dX6_applying_25 (by decide) ?_
          refine wa_ior F dX6_applying_29 ?_
          refine wa_istore_n (lv' := [(2, .int ((orA 0 (fAppl S b) k) ||| (1 <<< ((nI k) &&& 31)))), (3, .int (nI k)), (0, .ref 2), (1, .int (nI b))]) F dX6_applying_30 (i := 2) rfl (by decide) rfl ?_
          refine wa_iinc (v := (nI (k + 1))) (j := 1) (lv' := [(3, .int (nI (k + 1))), (2, .int ((orA 0 (fAppl S b) k) ||| (1 <<< ((nI k) &&& 31)))), (0, .ref 2), (1, .int (nI b))]) F dX6_applying_31 rfl ((nI_succ k).symm) (by decide) rfl ?_
          refine wa_goto (tgt := 4) F dX6_applying_34 (by decide) ?_
          have ea2 : ((orA 0 (fAppl S b) k) ||| (1 <<< ((nI k) &&& 31))) = (orA 0 (fAppl S b) (k + 1)) := by simp [orA, fAppl, c19]
          refine wa_lv (lv' := [(3, .int (nI (k + 1))), (2, .int (orA 0 (fAppl S b) (k + 1))), (0, .ref 2), (1, .int (nI b))]) [0, 1, 2, 3] (by rw [← ea2]; rfl) ?_
          exact ih (k + 1) (by omega) (by omega)
  exact loop4 ((cnt S 2) + 1) 0 (Nat.zero_le _) (by omega)
end
