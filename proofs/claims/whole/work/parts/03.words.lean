/-! the links across nest mates: true as long as the tables are -/
def isNest : Cond → Bool
  | .methodLinkNest .. => true
  | .fieldLinkNest .. => true
  | _ => false
def tbn : List Cond := lw_tbl.filter isNest
theorem tc_all {w : Cond} (h : w ∈ tables_1) : w ∈ lw_tbl := List.mem_append_right _ h
theorem tc_1 {w : Cond} (h : w ∈ tables_1_1) : w ∈ lw_tbl := tc_all (List.mem_append_left _ h)
theorem tb_1 {w : Cond} {i : Nat} (h : tables_1_1[i]? = some w) (hg : goodWord w = true) : w ∈ tbl := List.mem_append_right _ (List.mem_filter.mpr ⟨tc_1 (List.mem_of_getElem? h), hg⟩)
theorem tn__1 {w : Cond} {i : Nat} (h : tables_1_1[i]? = some w) (hg : isNest w = true) : w ∈ tbn := List.mem_filter.mpr ⟨tc_1 (List.mem_of_getElem? h), hg⟩
theorem tc_2 {w : Cond} (h : w ∈ tables_1_2) : w ∈ lw_tbl := tc_all (List.mem_append_right _ (List.mem_append_left _ h))
theorem tb_2 {w : Cond} {i : Nat} (h : tables_1_2[i]? = some w) (hg : goodWord w = true) : w ∈ tbl := List.mem_append_right _ (List.mem_filter.mpr ⟨tc_2 (List.mem_of_getElem? h), hg⟩)
theorem tn__2 {w : Cond} {i : Nat} (h : tables_1_2[i]? = some w) (hg : isNest w = true) : w ∈ tbn := List.mem_filter.mpr ⟨tc_2 (List.mem_of_getElem? h), hg⟩
theorem tc_3 {w : Cond} (h : w ∈ tables_1_3) : w ∈ lw_tbl := tc_all (List.mem_append_right _ (List.mem_append_right _ (List.mem_append_left _ h)))
theorem tb_3 {w : Cond} {i : Nat} (h : tables_1_3[i]? = some w) (hg : goodWord w = true) : w ∈ tbl := List.mem_append_right _ (List.mem_filter.mpr ⟨tc_3 (List.mem_of_getElem? h), hg⟩)
theorem tn__3 {w : Cond} {i : Nat} (h : tables_1_3[i]? = some w) (hg : isNest w = true) : w ∈ tbn := List.mem_filter.mpr ⟨tc_3 (List.mem_of_getElem? h), hg⟩
theorem tc_4 {w : Cond} (h : w ∈ tables_1_4) : w ∈ lw_tbl := tc_all (List.mem_append_right _ (List.mem_append_right _ (List.mem_append_right _ (List.mem_append_left _ h))))
theorem tb_4 {w : Cond} {i : Nat} (h : tables_1_4[i]? = some w) (hg : goodWord w = true) : w ∈ tbl := List.mem_append_right _ (List.mem_filter.mpr ⟨tc_4 (List.mem_of_getElem? h), hg⟩)
theorem tn__4 {w : Cond} {i : Nat} (h : tables_1_4[i]? = some w) (hg : isNest w = true) : w ∈ tbn := List.mem_filter.mpr ⟨tc_4 (List.mem_of_getElem? h), hg⟩
theorem tc_5 {w : Cond} (h : w ∈ tables_1_5) : w ∈ lw_tbl := tc_all (List.mem_append_right _ (List.mem_append_right _ (List.mem_append_right _ (List.mem_append_right _ (List.mem_append_left _ h)))))
theorem tb_5 {w : Cond} {i : Nat} (h : tables_1_5[i]? = some w) (hg : goodWord w = true) : w ∈ tbl := List.mem_append_right _ (List.mem_filter.mpr ⟨tc_5 (List.mem_of_getElem? h), hg⟩)
theorem tn__5 {w : Cond} {i : Nat} (h : tables_1_5[i]? = some w) (hg : isNest w = true) : w ∈ tbn := List.mem_filter.mpr ⟨tc_5 (List.mem_of_getElem? h), hg⟩
theorem tc_6 {w : Cond} (h : w ∈ tables_1_6) : w ∈ lw_tbl := tc_all (List.mem_append_right _ (List.mem_append_right _ (List.mem_append_right _ (List.mem_append_right _ (List.mem_append_right _ (List.mem_append_left _ h))))))
theorem tb_6 {w : Cond} {i : Nat} (h : tables_1_6[i]? = some w) (hg : goodWord w = true) : w ∈ tbl := List.mem_append_right _ (List.mem_filter.mpr ⟨tc_6 (List.mem_of_getElem? h), hg⟩)
theorem tn__6 {w : Cond} {i : Nat} (h : tables_1_6[i]? = some w) (hg : isNest w = true) : w ∈ tbn := List.mem_filter.mpr ⟨tc_6 (List.mem_of_getElem? h), hg⟩
theorem tc_7 {w : Cond} (h : w ∈ tables_1_7) : w ∈ lw_tbl := tc_all (List.mem_append_right _ (List.mem_append_right _ (List.mem_append_right _ (List.mem_append_right _ (List.mem_append_right _ (List.mem_append_right _ (h)))))))
theorem tb_7 {w : Cond} {i : Nat} (h : tables_1_7[i]? = some w) (hg : goodWord w = true) : w ∈ tbl := List.mem_append_right _ (List.mem_filter.mpr ⟨tc_7 (List.mem_of_getElem? h), hg⟩)
theorem tn__7 {w : Cond} {i : Nat} (h : tables_1_7[i]? = some w) (hg : isNest w = true) : w ∈ tbn := List.mem_filter.mpr ⟨tc_7 (List.mem_of_getElem? h), hg⟩
theorem tw_0 : ((.initialized "BundlesOfBidsLaw") : Cond) ∈ tbl := tb_1 (i := 0) (by decide +kernel) rfl
theorem tw_1 : ((.initialized "BundlesOfBids") : Cond) ∈ tbl := tb_1 (i := 1) (by decide +kernel) rfl
theorem tw_2 : ((.initialized "BundlesOfBids$Sale") : Cond) ∈ tbl := tb_1 (i := 2) (by decide +kernel) rfl
theorem tw_3 : ((.initialized "BundlesOfBids$Outcomes") : Cond) ∈ tbl := tb_1 (i := 3) (by decide +kernel) rfl
theorem tw_4 : ((.initialized "BundlesOfBids$Bill") : Cond) ∈ tbl := tb_1 (i := 4) (by decide +kernel) rfl
theorem tw_5 : ((.initialized "BundlesOfBids$Search") : Cond) ∈ tbl := tb_1 (i := 5) (by decide +kernel) rfl
theorem tw_6 : ((.initialized "BundlesOfBids$Script") : Cond) ∈ tbl := tb_1 (i := 6) (by decide +kernel) rfl
theorem tw_7 : ((.initialized "BundlesOfBids$Print") : Cond) ∈ tbl := tb_1 (i := 7) (by decide +kernel) rfl
theorem tw_8 : ((.initialized "BundlesOfBidsModel") : Cond) ∈ tbl := tb_1 (i := 8) (by decide +kernel) rfl
theorem tw_9 : ((.initialized "java/lang/String") : Cond) ∈ tbl := tb_1 (i := 9) (by decide +kernel) rfl
theorem tw_10 : ((.initialized "java/lang/StringLatin1") : Cond) ∈ tbl := tb_1 (i := 10) (by decide +kernel) rfl
theorem tw_11 : ((.initialized "jdk/internal/util/Preconditions") : Cond) ∈ tbl := tb_1 (i := 11) (by decide +kernel) rfl
theorem tw_12 : ((.initialized "java/lang/StringUTF16") : Cond) ∈ tbl := tb_1 (i := 12) (by decide +kernel) rfl
theorem tw_13 : ((.initialized "java/lang/System") : Cond) ∈ tbl := tb_1 (i := 13) (by decide +kernel) rfl
theorem tw_14 : ((.initialized "java/lang/Integer") : Cond) ∈ tbl := tb_1 (i := 14) (by decide +kernel) rfl
theorem tw_15 : ((.initialized "java/lang/Math") : Cond) ∈ tbl := tb_1 (i := 15) (by decide +kernel) rfl
theorem tw_16 : ((.initialized "java/lang/AbstractStringBuilder") : Cond) ∈ tbl := tb_1 (i := 16) (by decide +kernel) rfl
theorem tw_17 : ((.initialized "java/lang/StringBuilder") : Cond) ∈ tbl := tb_1 (i := 17) (by decide +kernel) rfl
theorem tw_18 : ((.initialized "jdk/internal/util/ArraysSupport") : Cond) ∈ tbl := tb_1 (i := 18) (by decide +kernel) rfl
theorem tw_19 : ((.initialized "java/util/Arrays") : Cond) ∈ tbl := tb_1 (i := 19) (by decide +kernel) rfl
theorem tw_20 : ((.classLink "BundlesOfBidsLaw" (7 : Nat) "BundlesOfBids") : Cond) ∈ tbl := tb_1 (i := 20) (by decide +kernel) rfl
theorem tw_21 : ((.instantiable "BundlesOfBids" (12 : Nat)) : Cond) ∈ tbl := tb_1 (i := 21) (by decide +kernel) rfl
theorem tw_22 : ((.methodLink "BundlesOfBidsLaw" (9 : Nat) ({ cls := "BundlesOfBids", name := "<init>", desc := "()V" } : MethodName)) : Cond) ∈ tbl := tb_1 (i := 22) (by decide +kernel) rfl
theorem tw_23 : ((.instanceMethod ({ cls := "BundlesOfBids", name := "<init>", desc := "()V" } : MethodName)) : Cond) ∈ tbl := tb_1 (i := 23) (by decide +kernel) rfl
theorem tw_24 : ((.code ({ cls := "BundlesOfBids", name := "<init>", desc := "()V" } : MethodName) prog_1_method_1_code (1 : Nat) (Option.none : Option FieldType)) : Cond) ∈ tbl := tb_1 (i := 24) (by decide +kernel) rfl
theorem tw_25 : ((.methodLink "BundlesOfBids" (1 : Nat) ({ cls := "java/lang/Object", name := "<init>", desc := "()V" } : MethodName)) : Cond) ∈ tbl := tb_1 (i := 25) (by decide +kernel) rfl
theorem tw_26 : ((.instanceMethod ({ cls := "java/lang/Object", name := "<init>", desc := "()V" } : MethodName)) : Cond) ∈ tbl := tb_1 (i := 26) (by decide +kernel) rfl
theorem tw_27 : ((.code ({ cls := "java/lang/Object", name := "<init>", desc := "()V" } : MethodName) object_method_1_code (1 : Nat) (Option.none : Option FieldType)) : Cond) ∈ tbl := tb_1 (i := 27) (by decide +kernel) rfl
theorem tw_28 : ((.classLink "BundlesOfBids" (7 : Nat) "BundlesOfBids$Sale") : Cond) ∈ tbl := tb_1 (i := 28) (by decide +kernel) rfl
theorem tw_29 : ((.instantiable "BundlesOfBids$Sale" (9 : Nat)) : Cond) ∈ tbl := tb_1 (i := 29) (by decide +kernel) rfl
theorem tn_30 : ((.methodLinkNest "BundlesOfBids" (9 : Nat) ({ cls := "BundlesOfBids$Sale", name := "<init>", desc := "()V" } : MethodName) "BundlesOfBids") : Cond) ∈ tbn := tn__1 (i := 30) (by decide +kernel) rfl
theorem tw_31 : ((.instanceMethod ({ cls := "BundlesOfBids$Sale", name := "<init>", desc := "()V" } : MethodName)) : Cond) ∈ tbl := tb_1 (i := 31) (by decide +kernel) rfl
theorem tw_32 : ((.code ({ cls := "BundlesOfBids$Sale", name := "<init>", desc := "()V" } : MethodName) prog_5_method_1_code (1 : Nat) (Option.none : Option FieldType)) : Cond) ∈ tbl := tb_1 (i := 32) (by decide +kernel) rfl
theorem tw_33 : ((.methodLink "BundlesOfBids$Sale" (3 : Nat) ({ cls := "java/lang/Object", name := "<init>", desc := "()V" } : MethodName)) : Cond) ∈ tbl := tb_1 (i := 33) (by decide +kernel) rfl
theorem tw_34 : ((.fieldLink "BundlesOfBids$Sale" (9 : Nat) "BundlesOfBids$Sale" "bidders" "[I") : Cond) ∈ tbl := tb_1 (i := 34) (by decide +kernel) rfl
theorem tw_35 : ((.fieldLink "BundlesOfBids$Sale" (15 : Nat) "BundlesOfBids$Sale" "sets" "[I") : Cond) ∈ tbl := tb_1 (i := 35) (by decide +kernel) rfl
theorem tw_36 : ((.fieldLink "BundlesOfBids$Sale" (18 : Nat) "BundlesOfBids$Sale" "prices" "[I") : Cond) ∈ tbl := tb_1 (i := 36) (by decide +kernel) rfl
theorem tw_37 : ((.fieldLink "BundlesOfBids$Sale" (21 : Nat) "BundlesOfBids$Sale" "owned" "[I") : Cond) ∈ tbl := tb_1 (i := 37) (by decide +kernel) rfl
theorem tw_38 : ((.fieldLink "BundlesOfBids$Sale" (24 : Nat) "BundlesOfBids$Sale" "kinds" "[I") : Cond) ∈ tbl := tb_1 (i := 38) (by decide +kernel) rfl
theorem tw_39 : ((.fieldLink "BundlesOfBids$Sale" (27 : Nat) "BundlesOfBids$Sale" "figures" "[I") : Cond) ∈ tbl := tb_1 (i := 39) (by decide +kernel) rfl
theorem tw_40 : ((.fieldLink "BundlesOfBids$Sale" (30 : Nat) "BundlesOfBids$Sale" "reserves" "[I") : Cond) ∈ tbl := tb_1 (i := 40) (by decide +kernel) rfl
theorem tw_41 : ((.fieldLink "BundlesOfBids$Sale" (33 : Nat) "BundlesOfBids$Sale" "came" "I") : Cond) ∈ tbl := tb_1 (i := 41) (by decide +kernel) rfl
theorem tn_42 : ((.fieldLinkNest "BundlesOfBids$Search" (28 : Nat) "BundlesOfBids$Sale" "came" "I" "BundlesOfBids") : Cond) ∈ tbn := tn__1 (i := 42) (by decide +kernel) rfl
theorem tn_43 : ((.fieldLinkNest "BundlesOfBids$Print" (19 : Nat) "BundlesOfBids$Sale" "came" "I" "BundlesOfBids") : Cond) ∈ tbn := tn__1 (i := 43) (by decide +kernel) rfl
theorem tn_44 : ((.fieldLinkNest "BundlesOfBids" (102 : Nat) "BundlesOfBids$Sale" "came" "I" "BundlesOfBids") : Cond) ∈ tbn := tn__1 (i := 44) (by decide +kernel) rfl
theorem tn_45 : ((.fieldLinkNest "BundlesOfBids$Outcomes" (58 : Nat) "BundlesOfBids$Sale" "came" "I" "BundlesOfBids") : Cond) ∈ tbn := tn__1 (i := 45) (by decide +kernel) rfl
theorem tw_46 : ((.fieldLink "BundlesOfBids$Sale" (37 : Nat) "BundlesOfBids$Sale" "active" "I") : Cond) ∈ tbl := tb_1 (i := 46) (by decide +kernel) rfl
theorem tn_47 : ((.fieldLinkNest "BundlesOfBids$Search" (45 : Nat) "BundlesOfBids$Sale" "active" "I" "BundlesOfBids") : Cond) ∈ tbn := tn__1 (i := 47) (by decide +kernel) rfl
theorem tn_48 : ((.fieldLinkNest "BundlesOfBids" (112 : Nat) "BundlesOfBids$Sale" "active" "I" "BundlesOfBids") : Cond) ∈ tbn := tn__1 (i := 48) (by decide +kernel) rfl
theorem tn_49 : ((.fieldLinkNest "BundlesOfBids$Outcomes" (61 : Nat) "BundlesOfBids$Sale" "active" "I" "BundlesOfBids") : Cond) ∈ tbn := tn__1 (i := 49) (by decide +kernel) rfl
theorem tw_68 : ((.superclass "BundlesOfBids$Sale" "java/lang/Object") : Cond) ∈ tbl := tb_1 (i := 68) (by decide +kernel) rfl
theorem tw_69 : ((.arrayClass FieldType.int) : Cond) ∈ tbl := tb_1 (i := 69) (by decide +kernel) rfl
theorem tw_70 : ((.classLink "BundlesOfBids" (22 : Nat) "BundlesOfBids$Outcomes") : Cond) ∈ tbl := tb_1 (i := 70) (by decide +kernel) rfl
theorem tw_71 : ((.instantiable "BundlesOfBids$Outcomes" (6 : Nat)) : Cond) ∈ tbl := tb_1 (i := 71) (by decide +kernel) rfl
theorem tn_72 : ((.methodLinkNest "BundlesOfBids" (24 : Nat) ({ cls := "BundlesOfBids$Outcomes", name := "<init>", desc := "()V" } : MethodName) "BundlesOfBids") : Cond) ∈ tbn := tn__1 (i := 72) (by decide +kernel) rfl
theorem tw_73 : ((.instanceMethod ({ cls := "BundlesOfBids$Outcomes", name := "<init>", desc := "()V" } : MethodName)) : Cond) ∈ tbl := tb_1 (i := 73) (by decide +kernel) rfl
theorem tw_74 : ((.code ({ cls := "BundlesOfBids$Outcomes", name := "<init>", desc := "()V" } : MethodName) prog_3_method_1_code (1 : Nat) (Option.none : Option FieldType)) : Cond) ∈ tbl := tb_1 (i := 74) (by decide +kernel) rfl
theorem tw_75 : ((.methodLink "BundlesOfBids$Outcomes" (3 : Nat) ({ cls := "java/lang/Object", name := "<init>", desc := "()V" } : MethodName)) : Cond) ∈ tbl := tb_1 (i := 75) (by decide +kernel) rfl
theorem tw_76 : ((.fieldLink "BundlesOfBids$Outcomes" (11 : Nat) "BundlesOfBids$Outcomes" "packs" "[I") : Cond) ∈ tbl := tb_1 (i := 76) (by decide +kernel) rfl
theorem tw_77 : ((.fieldLink "BundlesOfBids$Outcomes" (15 : Nat) "BundlesOfBids$Outcomes" "packItems" "[I") : Cond) ∈ tbl := tb_1 (i := 77) (by decide +kernel) rfl
theorem tw_78 : ((.fieldLink "BundlesOfBids$Outcomes" (18 : Nat) "BundlesOfBids$Outcomes" "packWorths" "[I") : Cond) ∈ tbl := tb_1 (i := 78) (by decide +kernel) rfl
theorem tw_79 : ((.fieldLink "BundlesOfBids$Outcomes" (21 : Nat) "BundlesOfBids$Outcomes" "keys" "[I") : Cond) ∈ tbl := tb_1 (i := 79) (by decide +kernel) rfl
theorem tw_80 : ((.fieldLink "BundlesOfBids$Outcomes" (24 : Nat) "BundlesOfBids$Outcomes" "packCount" "I") : Cond) ∈ tbl := tb_1 (i := 80) (by decide +kernel) rfl
theorem tw_81 : ((.fieldLink "BundlesOfBids$Outcomes" (28 : Nat) "BundlesOfBids$Outcomes" "size" "I") : Cond) ∈ tbl := tb_1 (i := 81) (by decide +kernel) rfl
theorem tn_82 : ((.fieldLinkNest "BundlesOfBids" (199 : Nat) "BundlesOfBids$Outcomes" "size" "I" "BundlesOfBids") : Cond) ∈ tbn := tn__1 (i := 82) (by decide +kernel) rfl
theorem tw_95 : ((.superclass "BundlesOfBids$Outcomes" "java/lang/Object") : Cond) ∈ tbl := tb_1 (i := 95) (by decide +kernel) rfl
theorem tw_96 : ((.classLink "BundlesOfBids" (29 : Nat) "BundlesOfBids$Bill") : Cond) ∈ tbl := tb_1 (i := 96) (by decide +kernel) rfl
theorem tw_97 : ((.instantiable "BundlesOfBids$Bill" (8 : Nat)) : Cond) ∈ tbl := tb_1 (i := 97) (by decide +kernel) rfl
theorem tn_98 : ((.methodLinkNest "BundlesOfBids" (31 : Nat) ({ cls := "BundlesOfBids$Bill", name := "<init>", desc := "()V" } : MethodName) "BundlesOfBids") : Cond) ∈ tbn := tn__1 (i := 98) (by decide +kernel) rfl
theorem tw_99 : ((.instanceMethod ({ cls := "BundlesOfBids$Bill", name := "<init>", desc := "()V" } : MethodName)) : Cond) ∈ tbl := tb_1 (i := 99) (by decide +kernel) rfl
theorem tw_100 : ((.code ({ cls := "BundlesOfBids$Bill", name := "<init>", desc := "()V" } : MethodName) prog_2_method_1_code (1 : Nat) (Option.none : Option FieldType)) : Cond) ∈ tbl := tb_1 (i := 100) (by decide +kernel) rfl
theorem tw_101 : ((.methodLink "BundlesOfBids$Bill" (3 : Nat) ({ cls := "java/lang/Object", name := "<init>", desc := "()V" } : MethodName)) : Cond) ∈ tbl := tb_1 (i := 101) (by decide +kernel) rfl
theorem tw_102 : ((.fieldLink "BundlesOfBids$Bill" (9 : Nat) "BundlesOfBids$Bill" "won" "[I") : Cond) ∈ tbl := tb_1 (i := 102) (by decide +kernel) rfl
theorem tn_103 : ((.fieldLinkNest "BundlesOfBids" (167 : Nat) "BundlesOfBids$Bill" "won" "[I" "BundlesOfBids") : Cond) ∈ tbn := tn__1 (i := 103) (by decide +kernel) rfl
theorem tw_104 : ((.fieldLink "BundlesOfBids$Bill" (15 : Nat) "BundlesOfBids$Bill" "byHarm" "[I") : Cond) ∈ tbl := tb_1 (i := 104) (by decide +kernel) rfl
theorem tn_105 : ((.fieldLinkNest "BundlesOfBids" (262 : Nat) "BundlesOfBids$Bill" "byHarm" "[I" "BundlesOfBids") : Cond) ∈ tbn := tn__1 (i := 105) (by decide +kernel) rfl
theorem tw_106 : ((.fieldLink "BundlesOfBids$Bill" (18 : Nat) "BundlesOfBids$Bill" "lifted" "[I") : Cond) ∈ tbl := tb_1 (i := 106) (by decide +kernel) rfl
theorem tw_107 : ((.fieldLink "BundlesOfBids$Bill" (21 : Nat) "BundlesOfBids$Bill" "groupWorths" "[I") : Cond) ∈ tbl := tb_1 (i := 107) (by decide +kernel) rfl
theorem tw_108 : ((.fieldLink "BundlesOfBids$Bill" (24 : Nat) "BundlesOfBids$Bill" "winning" "I") : Cond) ∈ tbl := tb_1 (i := 108) (by decide +kernel) rfl
theorem tn_109 : ((.fieldLinkNest "BundlesOfBids" (265 : Nat) "BundlesOfBids$Bill" "winning" "I" "BundlesOfBids") : Cond) ∈ tbn := tn__1 (i := 109) (by decide +kernel) rfl
theorem tw_110 : ((.fieldLink "BundlesOfBids$Bill" (28 : Nat) "BundlesOfBids$Bill" "worth" "I") : Cond) ∈ tbl := tb_1 (i := 110) (by decide +kernel) rfl
theorem tn_111 : ((.fieldLinkNest "BundlesOfBids" (313 : Nat) "BundlesOfBids$Bill" "worth" "I" "BundlesOfBids") : Cond) ∈ tbn := tn__1 (i := 111) (by decide +kernel) rfl
theorem tw_112 : ((.fieldLink "BundlesOfBids$Bill" (31 : Nat) "BundlesOfBids$Bill" "unsold" "I") : Cond) ∈ tbl := tb_1 (i := 112) (by decide +kernel) rfl
theorem tw_113 : ((.fieldLink "BundlesOfBids$Bill" (34 : Nat) "BundlesOfBids$Bill" "liftCount" "I") : Cond) ∈ tbl := tb_1 (i := 113) (by decide +kernel) rfl
theorem tn_114 : ((.fieldLinkNest "BundlesOfBids" (253 : Nat) "BundlesOfBids$Bill" "liftCount" "I" "BundlesOfBids") : Cond) ∈ tbn := tn__1 (i := 114) (by decide +kernel) rfl
theorem tw_131 : ((.superclass "BundlesOfBids$Bill" "java/lang/Object") : Cond) ∈ tbl := tb_1 (i := 131) (by decide +kernel) rfl
theorem tw_132 : ((.classLink "BundlesOfBids" (36 : Nat) "BundlesOfBids$Search") : Cond) ∈ tbl := tb_1 (i := 132) (by decide +kernel) rfl
theorem tw_133 : ((.instantiable "BundlesOfBids$Search" (5 : Nat)) : Cond) ∈ tbl := tb_1 (i := 133) (by decide +kernel) rfl
theorem tn_134 : ((.methodLinkNest "BundlesOfBids" (38 : Nat) ({ cls := "BundlesOfBids$Search", name := "<init>", desc := "()V" } : MethodName) "BundlesOfBids") : Cond) ∈ tbn := tn__1 (i := 134) (by decide +kernel) rfl
theorem tw_135 : ((.instanceMethod ({ cls := "BundlesOfBids$Search", name := "<init>", desc := "()V" } : MethodName)) : Cond) ∈ tbl := tb_1 (i := 135) (by decide +kernel) rfl
theorem tw_136 : ((.code ({ cls := "BundlesOfBids$Search", name := "<init>", desc := "()V" } : MethodName) prog_7_method_1_code (1 : Nat) (Option.none : Option FieldType)) : Cond) ∈ tbl := tb_1 (i := 136) (by decide +kernel) rfl
theorem tw_137 : ((.methodLink "BundlesOfBids$Search" (3 : Nat) ({ cls := "java/lang/Object", name := "<init>", desc := "()V" } : MethodName)) : Cond) ∈ tbl := tb_1 (i := 137) (by decide +kernel) rfl
theorem tw_138 : ((.fieldLink "BundlesOfBids$Search" (9 : Nat) "BundlesOfBids$Search" "shares" "[I") : Cond) ∈ tbl := tb_1 (i := 138) (by decide +kernel) rfl
theorem tw_139 : ((.fieldLink "BundlesOfBids$Search" (15 : Nat) "BundlesOfBids$Search" "order" "[I") : Cond) ∈ tbl := tb_1 (i := 139) (by decide +kernel) rfl
theorem tw_140 : ((.fieldLink "BundlesOfBids$Search" (18 : Nat) "BundlesOfBids$Search" "length" "I") : Cond) ∈ tbl := tb_1 (i := 140) (by decide +kernel) rfl
theorem tw_141 : ((.fieldLink "BundlesOfBids$Search" (22 : Nat) "BundlesOfBids$Search" "looked" "I") : Cond) ∈ tbl := tb_1 (i := 141) (by decide +kernel) rfl
theorem tw_142 : ((.fieldLink "BundlesOfBids$Search" (25 : Nat) "BundlesOfBids$Search" "found" "I") : Cond) ∈ tbl := tb_1 (i := 142) (by decide +kernel) rfl
theorem tw_153 : ((.superclass "BundlesOfBids$Search" "java/lang/Object") : Cond) ∈ tbl := tb_1 (i := 153) (by decide +kernel) rfl
theorem tw_154 : ((.classLink "BundlesOfBids" (43 : Nat) "BundlesOfBids$Script") : Cond) ∈ tbl := tb_1 (i := 154) (by decide +kernel) rfl
theorem tw_155 : ((.instantiable "BundlesOfBids$Script" (10 : Nat)) : Cond) ∈ tbl := tb_1 (i := 155) (by decide +kernel) rfl
theorem tn_156 : ((.methodLinkNest "BundlesOfBids" (45 : Nat) ({ cls := "BundlesOfBids$Script", name := "<init>", desc := "()V" } : MethodName) "BundlesOfBids") : Cond) ∈ tbn := tn__1 (i := 156) (by decide +kernel) rfl
theorem tw_157 : ((.instanceMethod ({ cls := "BundlesOfBids$Script", name := "<init>", desc := "()V" } : MethodName)) : Cond) ∈ tbl := tb_1 (i := 157) (by decide +kernel) rfl
theorem tw_158 : ((.code ({ cls := "BundlesOfBids$Script", name := "<init>", desc := "()V" } : MethodName) prog_6_method_1_code (1 : Nat) (Option.none : Option FieldType)) : Cond) ∈ tbl := tb_1 (i := 158) (by decide +kernel) rfl
theorem tw_159 : ((.methodLink "BundlesOfBids$Script" (3 : Nat) ({ cls := "java/lang/Object", name := "<init>", desc := "()V" } : MethodName)) : Cond) ∈ tbl := tb_1 (i := 159) (by decide +kernel) rfl
theorem tw_160 : ((.fieldLink "BundlesOfBids$Script" (9 : Nat) "BundlesOfBids$Script" "letters" "[I") : Cond) ∈ tbl := tb_1 (i := 160) (by decide +kernel) rfl
theorem tw_161 : ((.fieldLink "BundlesOfBids$Script" (15 : Nat) "BundlesOfBids$Script" "starts" "[I") : Cond) ∈ tbl := tb_1 (i := 161) (by decide +kernel) rfl
theorem tw_162 : ((.fieldLink "BundlesOfBids$Script" (18 : Nat) "BundlesOfBids$Script" "words" "[I") : Cond) ∈ tbl := tb_1 (i := 162) (by decide +kernel) rfl
theorem tw_163 : ((.fieldLink "BundlesOfBids$Script" (21 : Nat) "BundlesOfBids$Script" "firsts" "[I") : Cond) ∈ tbl := tb_1 (i := 163) (by decide +kernel) rfl
theorem tw_164 : ((.fieldLink "BundlesOfBids$Script" (24 : Nat) "BundlesOfBids$Script" "seconds" "[I") : Cond) ∈ tbl := tb_1 (i := 164) (by decide +kernel) rfl
theorem tw_165 : ((.fieldLink "BundlesOfBids$Script" (27 : Nat) "BundlesOfBids$Script" "thirds" "[I") : Cond) ∈ tbl := tb_1 (i := 165) (by decide +kernel) rfl
theorem tw_166 : ((.fieldLink "BundlesOfBids$Script" (30 : Nat) "BundlesOfBids$Script" "size" "I") : Cond) ∈ tbl := tb_1 (i := 166) (by decide +kernel) rfl
theorem tn_167 : ((.fieldLinkNest "BundlesOfBids" (319 : Nat) "BundlesOfBids$Script" "size" "I" "BundlesOfBids") : Cond) ∈ tbn := tn__1 (i := 167) (by decide +kernel) rfl
theorem tw_168 : ((.fieldLink "BundlesOfBids$Script" (34 : Nat) "BundlesOfBids$Script" "place" "I") : Cond) ∈ tbl := tb_1 (i := 168) (by decide +kernel) rfl
theorem tw_169 : ((.fieldLink "BundlesOfBids$Script" (37 : Nat) "BundlesOfBids$Script" "fault" "I") : Cond) ∈ tbl := tb_1 (i := 169) (by decide +kernel) rfl
theorem tw_170 : ((.fieldLink "BundlesOfBids$Script" (40 : Nat) "BundlesOfBids$Script" "statements" "I") : Cond) ∈ tbl := tb_1 (i := 170) (by decide +kernel) rfl
theorem tn_171 : ((.fieldLinkNest "BundlesOfBids" (331 : Nat) "BundlesOfBids$Script" "statements" "I" "BundlesOfBids") : Cond) ∈ tbn := tn__1 (i := 171) (by decide +kernel) rfl
theorem tw_192 : ((.superclass "BundlesOfBids$Script" "java/lang/Object") : Cond) ∈ tbl := tb_1 (i := 192) (by decide +kernel) rfl
theorem tw_193 : ((.classLink "BundlesOfBids" (50 : Nat) "BundlesOfBids$Print") : Cond) ∈ tbl := tb_1 (i := 193) (by decide +kernel) rfl
theorem tw_194 : ((.instantiable "BundlesOfBids$Print" (2 : Nat)) : Cond) ∈ tbl := tb_1 (i := 194) (by decide +kernel) rfl
theorem tn_195 : ((.methodLinkNest "BundlesOfBids" (52 : Nat) ({ cls := "BundlesOfBids$Print", name := "<init>", desc := "()V" } : MethodName) "BundlesOfBids") : Cond) ∈ tbn := tn__1 (i := 195) (by decide +kernel) rfl
theorem tw_196 : ((.instanceMethod ({ cls := "BundlesOfBids$Print", name := "<init>", desc := "()V" } : MethodName)) : Cond) ∈ tbl := tb_1 (i := 196) (by decide +kernel) rfl
theorem tw_197 : ((.code ({ cls := "BundlesOfBids$Print", name := "<init>", desc := "()V" } : MethodName) prog_4_method_1_code (1 : Nat) (Option.none : Option FieldType)) : Cond) ∈ tbl := tb_1 (i := 197) (by decide +kernel) rfl
theorem tw_198 : ((.methodLink "BundlesOfBids$Print" (3 : Nat) ({ cls := "java/lang/Object", name := "<init>", desc := "()V" } : MethodName)) : Cond) ∈ tbl := tb_1 (i := 198) (by decide +kernel) rfl
theorem tw_199 : ((.fieldLink "BundlesOfBids$Print" (11 : Nat) "BundlesOfBids$Print" "signs" "[I") : Cond) ∈ tbl := tb_1 (i := 199) (by decide +kernel) rfl
theorem tw_200 : ((.fieldLink "BundlesOfBids$Print" (15 : Nat) "BundlesOfBids$Print" "length" "I") : Cond) ∈ tbl := tb_1 (i := 200) (by decide +kernel) rfl
theorem tn_201 : ((.fieldLinkNest "BundlesOfBids" (298 : Nat) "BundlesOfBids$Print" "length" "I" "BundlesOfBids") : Cond) ∈ tbn := tn__1 (i := 201) (by decide +kernel) rfl
theorem tw_206 : ((.superclass "BundlesOfBids$Print" "java/lang/Object") : Cond) ∈ tbl := tb_1 (i := 206) (by decide +kernel) rfl
theorem tw_207 : ((.fieldLink "BundlesOfBids" (10 : Nat) "BundlesOfBids" "sale" "LBundlesOfBids$Sale;") : Cond) ∈ tbl := tb_1 (i := 207) (by decide +kernel) rfl
theorem tw_208 : ((.fieldLink "BundlesOfBids" (16 : Nat) "BundlesOfBids" "pictured" "LBundlesOfBids$Sale;") : Cond) ∈ tbl := tb_1 (i := 208) (by decide +kernel) rfl
theorem tw_209 : ((.fieldLink "BundlesOfBids" (19 : Nat) "BundlesOfBids" "trial" "LBundlesOfBids$Sale;") : Cond) ∈ tbl := tb_1 (i := 209) (by decide +kernel) rfl
theorem tw_210 : ((.fieldLink "BundlesOfBids" (25 : Nat) "BundlesOfBids" "outcomes" "LBundlesOfBids$Outcomes;") : Cond) ∈ tbl := tb_1 (i := 210) (by decide +kernel) rfl
theorem tw_211 : ((.fieldLink "BundlesOfBids" (32 : Nat) "BundlesOfBids" "bill" "LBundlesOfBids$Bill;") : Cond) ∈ tbl := tb_1 (i := 211) (by decide +kernel) rfl
theorem tw_212 : ((.fieldLink "BundlesOfBids" (39 : Nat) "BundlesOfBids" "search" "LBundlesOfBids$Search;") : Cond) ∈ tbl := tb_1 (i := 212) (by decide +kernel) rfl
theorem tw_213 : ((.fieldLink "BundlesOfBids" (46 : Nat) "BundlesOfBids" "script" "LBundlesOfBids$Script;") : Cond) ∈ tbl := tb_1 (i := 213) (by decide +kernel) rfl
theorem tw_214 : ((.fieldLink "BundlesOfBids" (53 : Nat) "BundlesOfBids" "print" "LBundlesOfBids$Print;") : Cond) ∈ tbl := tb_1 (i := 214) (by decide +kernel) rfl
theorem tw_215 : ((.fieldLink "BundlesOfBids" (57 : Nat) "BundlesOfBids" "told" "[I") : Cond) ∈ tbl := tb_1 (i := 215) (by decide +kernel) rfl
theorem tw_216 : ((.fieldLink "BundlesOfBids" (61 : Nat) "BundlesOfBids" "refusals" "[I") : Cond) ∈ tbl := tb_1 (i := 216) (by decide +kernel) rfl
theorem tw_217 : ((.fieldLink "BundlesOfBids" (64 : Nat) "BundlesOfBids" "toldCount" "I") : Cond) ∈ tbl := tb_1 (i := 217) (by decide +kernel) rfl
theorem tw_218 : ((.fieldLink "BundlesOfBids" (68 : Nat) "BundlesOfBids" "hasPicture" "Z") : Cond) ∈ tbl := tb_1 (i := 218) (by decide +kernel) rfl
theorem tw_243 : ((.superclass "BundlesOfBids" "java/lang/Object") : Cond) ∈ tbl := tb_2 (i := 3) (by decide +kernel) rfl
theorem tw_244 : ((.methodLink "BundlesOfBidsLaw" (13 : Nat) ({ cls := "BundlesOfBids", name := "letter", desc := "(I)I" } : MethodName)) : Cond) ∈ tbl := tb_2 (i := 4) (by decide +kernel) rfl
theorem tw_245 : ((.instanceMethod ({ cls := "BundlesOfBids", name := "letter", desc := "(I)I" } : MethodName)) : Cond) ∈ tbl := tb_2 (i := 5) (by decide +kernel) rfl
theorem tw_246 : ((.selects "BundlesOfBids" ({ cls := "BundlesOfBids", name := "letter", desc := "(I)I" } : MethodName) ({ cls := "BundlesOfBids", name := "letter", desc := "(I)I" } : MethodName)) : Cond) ∈ tbl := tb_2 (i := 6) (by decide +kernel) rfl
theorem tw_247 : ((.code ({ cls := "BundlesOfBids", name := "letter", desc := "(I)I" } : MethodName) prog_1_method_2_code (2 : Nat) (some FieldType.int)) : Cond) ∈ tbl := tb_2 (i := 7) (by decide +kernel) rfl
theorem tw_248 : ((.methodLink "BundlesOfBids" (72 : Nat) ({ cls := "BundlesOfBids", name := "refuse", desc := "(I)I" } : MethodName)) : Cond) ∈ tbl := tb_2 (i := 8) (by decide +kernel) rfl
theorem tw_250 : ((.instanceMethod ({ cls := "BundlesOfBids", name := "refuse", desc := "(I)I" } : MethodName)) : Cond) ∈ tbl := tb_2 (i := 10) (by decide +kernel) rfl
theorem tw_251 : ((.code ({ cls := "BundlesOfBids", name := "refuse", desc := "(I)I" } : MethodName) prog_1_method_37_code (3 : Nat) (some FieldType.int)) : Cond) ∈ tbl := tb_2 (i := 11) (by decide +kernel) rfl
theorem tn_252 : ((.methodLinkNest "BundlesOfBids" (76 : Nat) ({ cls := "BundlesOfBids$Script", name := "isFull", desc := "()Z" } : MethodName) "BundlesOfBids") : Cond) ∈ tbn := tn__2 (i := 12) (by decide +kernel) rfl
theorem tw_254 : ((.instanceMethod ({ cls := "BundlesOfBids$Script", name := "isFull", desc := "()Z" } : MethodName)) : Cond) ∈ tbl := tb_2 (i := 14) (by decide +kernel) rfl
theorem tw_255 : ((.code ({ cls := "BundlesOfBids$Script", name := "isFull", desc := "()Z" } : MethodName) prog_6_method_2_code (1 : Nat) (Option.some FieldType.boolean)) : Cond) ∈ tbl := tb_2 (i := 15) (by decide +kernel) rfl
theorem tn_256 : ((.methodLinkNest "BundlesOfBids" (80 : Nat) ({ cls := "BundlesOfBids$Script", name := "append", desc := "(I)I" } : MethodName) "BundlesOfBids") : Cond) ∈ tbn := tn__2 (i := 16) (by decide +kernel) rfl
theorem tw_258 : ((.instanceMethod ({ cls := "BundlesOfBids$Script", name := "append", desc := "(I)I" } : MethodName)) : Cond) ∈ tbl := tb_2 (i := 18) (by decide +kernel) rfl
theorem tw_259 : ((.code ({ cls := "BundlesOfBids$Script", name := "append", desc := "(I)I" } : MethodName) prog_6_method_3_code (2 : Nat) (some FieldType.int)) : Cond) ∈ tbl := tb_2 (i := 19) (by decide +kernel) rfl
theorem tw_260 : ((.methodLink "BundlesOfBids$Script" (43 : Nat) ({ cls := "BundlesOfBids$Script", name := "isFull", desc := "()Z" } : MethodName)) : Cond) ∈ tbl := tb_2 (i := 20) (by decide +kernel) rfl
theorem tw_261 : ((.methodLink "BundlesOfBidsLaw" (18 : Nat) ({ cls := "BundlesOfBids", name := "auction", desc := "()I" } : MethodName)) : Cond) ∈ tbl := tb_2 (i := 21) (by decide +kernel) rfl
theorem tw_262 : ((.instanceMethod ({ cls := "BundlesOfBids", name := "auction", desc := "()I" } : MethodName)) : Cond) ∈ tbl := tb_2 (i := 22) (by decide +kernel) rfl
theorem tw_263 : ((.selects "BundlesOfBids" ({ cls := "BundlesOfBids", name := "auction", desc := "()I" } : MethodName) ({ cls := "BundlesOfBids", name := "auction", desc := "()I" } : MethodName)) : Cond) ∈ tbl := tb_2 (i := 23) (by decide +kernel) rfl
theorem tw_264 : ((.code ({ cls := "BundlesOfBids", name := "auction", desc := "()I" } : MethodName) prog_1_method_3_code (3 : Nat) (some FieldType.int)) : Cond) ∈ tbl := tb_2 (i := 24) (by decide +kernel) rfl
theorem tn_265 : ((.methodLinkNest "BundlesOfBids" (83 : Nat) ({ cls := "BundlesOfBids$Script", name := "parse", desc := "()I" } : MethodName) "BundlesOfBids") : Cond) ∈ tbn := tn__2 (i := 25) (by decide +kernel) rfl
theorem tw_267 : ((.instanceMethod ({ cls := "BundlesOfBids$Script", name := "parse", desc := "()I" } : MethodName)) : Cond) ∈ tbl := tb_2 (i := 27) (by decide +kernel) rfl
theorem tw_268 : ((.code ({ cls := "BundlesOfBids$Script", name := "parse", desc := "()I" } : MethodName) prog_6_method_5_code (2 : Nat) (some FieldType.int)) : Cond) ∈ tbl := tb_2 (i := 28) (by decide +kernel) rfl
theorem tw_269 : ((.methodLink "BundlesOfBids$Script" (47 : Nat) ({ cls := "BundlesOfBids$Script", name := "readStatement", desc := "()V" } : MethodName)) : Cond) ∈ tbl := tb_2 (i := 29) (by decide +kernel) rfl
theorem tw_271 : ((.instanceMethod ({ cls := "BundlesOfBids$Script", name := "readStatement", desc := "()V" } : MethodName)) : Cond) ∈ tbl := tb_2 (i := 31) (by decide +kernel) rfl
theorem tw_272 : ((.code ({ cls := "BundlesOfBids$Script", name := "readStatement", desc := "()V" } : MethodName) prog_6_method_6_code (6 : Nat) (Option.none : Option FieldType)) : Cond) ∈ tbl := tb_2 (i := 32) (by decide +kernel) rfl
theorem tw_273 : ((.methodLink "BundlesOfBids$Script" (50 : Nat) ({ cls := "BundlesOfBids$Script", name := "readWord", desc := "()I" } : MethodName)) : Cond) ∈ tbl := tb_2 (i := 33) (by decide +kernel) rfl
theorem tw_275 : ((.instanceMethod ({ cls := "BundlesOfBids$Script", name := "readWord", desc := "()I" } : MethodName)) : Cond) ∈ tbl := tb_2 (i := 35) (by decide +kernel) rfl
theorem tw_276 : ((.code ({ cls := "BundlesOfBids$Script", name := "readWord", desc := "()I" } : MethodName) prog_6_method_12_code (3 : Nat) (some FieldType.int)) : Cond) ∈ tbl := tb_2 (i := 36) (by decide +kernel) rfl
theorem tw_277 : ((.methodLink "BundlesOfBids$Script" (67 : Nat) ({ cls := "BundlesOfBids$Script", name := "signHere", desc := "()I" } : MethodName)) : Cond) ∈ tbl := tb_2 (i := 37) (by decide +kernel) rfl
theorem tw_279 : ((.instanceMethod ({ cls := "BundlesOfBids$Script", name := "signHere", desc := "()I" } : MethodName)) : Cond) ∈ tbl := tb_2 (i := 39) (by decide +kernel) rfl
theorem tw_280 : ((.code ({ cls := "BundlesOfBids$Script", name := "signHere", desc := "()I" } : MethodName) prog_6_method_7_code (1 : Nat) (some FieldType.int)) : Cond) ∈ tbl := tb_2 (i := 40) (by decide +kernel) rfl
theorem tw_281 : ((.methodLink "BundlesOfBids$Script" (73 : Nat) ({ cls := "BundlesOfBids$Script", name := "isSmall", desc := "(I)Z" } : MethodName)) : Cond) ∈ tbl := tb_2 (i := 41) (by decide +kernel) rfl
theorem tw_282 : ((.static ({ cls := "BundlesOfBids$Script", name := "isSmall", desc := "(I)Z" } : MethodName)) : Cond) ∈ tbl := tb_2 (i := 42) (by decide +kernel) rfl
theorem tw_283 : ((.code ({ cls := "BundlesOfBids$Script", name := "isSmall", desc := "(I)Z" } : MethodName) prog_6_method_8_code (1 : Nat) (Option.some FieldType.boolean)) : Cond) ∈ tbl := tb_2 (i := 43) (by decide +kernel) rfl
theorem tw_284 : ((.methodLink "BundlesOfBids$Script" (77 : Nat) ({ cls := "BundlesOfBids$Script", name := "wordFrom", desc := "(II)I" } : MethodName)) : Cond) ∈ tbl := tb_2 (i := 44) (by decide +kernel) rfl
theorem tw_286 : ((.instanceMethod ({ cls := "BundlesOfBids$Script", name := "wordFrom", desc := "(II)I" } : MethodName)) : Cond) ∈ tbl := tb_2 (i := 46) (by decide +kernel) rfl
theorem tw_287 : ((.code ({ cls := "BundlesOfBids$Script", name := "wordFrom", desc := "(II)I" } : MethodName) prog_6_method_13_code (3 : Nat) (some FieldType.int)) : Cond) ∈ tbl := tb_2 (i := 47) (by decide +kernel) rfl
theorem tw_289 : ((.methodLink "BundlesOfBids$Script" (83 : Nat) ({ cls := "BundlesOfBids$Script", name := "spells", desc := "(Ljava/lang/String;II)Z" } : MethodName)) : Cond) ∈ tbl := tb_2 (i := 49) (by decide +kernel) rfl
theorem tw_291 : ((.instanceMethod ({ cls := "BundlesOfBids$Script", name := "spells", desc := "(Ljava/lang/String;II)Z" } : MethodName)) : Cond) ∈ tbl := tb_2 (i := 51) (by decide +kernel) rfl
theorem tw_292 : ((.code ({ cls := "BundlesOfBids$Script", name := "spells", desc := "(Ljava/lang/String;II)Z" } : MethodName) prog_6_method_14_code (5 : Nat) (Option.some FieldType.boolean)) : Cond) ∈ tbl := tb_2 (i := 52) (by decide +kernel) rfl
theorem tw_293 : ((.methodLink "BundlesOfBids$Script" (95 : Nat) ({ cls := "java/lang/String", name := "length", desc := "()I" } : MethodName)) : Cond) ∈ tbl := tb_2 (i := 53) (by decide +kernel) rfl
theorem tw_294 : ((.instanceMethod ({ cls := "java/lang/String", name := "length", desc := "()I" } : MethodName)) : Cond) ∈ tbl := tb_2 (i := 54) (by decide +kernel) rfl
theorem tw_295 : ((.selects "java/lang/String" ({ cls := "java/lang/String", name := "length", desc := "()I" } : MethodName) ({ cls := "java/lang/String", name := "length", desc := "()I" } : MethodName)) : Cond) ∈ tbl := tb_2 (i := 55) (by decide +kernel) rfl
theorem tw_296 : ((.code ({ cls := "java/lang/String", name := "length", desc := "()I" } : MethodName) prog_14_method_54_code (1 : Nat) (some FieldType.int)) : Cond) ∈ tbl := tb_2 (i := 56) (by decide +kernel) rfl
theorem tw_297 : ((.methodLink "java/lang/String" (335 : Nat) ({ cls := "java/lang/String", name := "coder", desc := "()B" } : MethodName)) : Cond) ∈ tbl := tb_2 (i := 57) (by decide +kernel) rfl
theorem tw_298 : ((.instanceMethod ({ cls := "java/lang/String", name := "coder", desc := "()B" } : MethodName)) : Cond) ∈ tbl := tb_2 (i := 58) (by decide +kernel) rfl
theorem tw_299 : ((.selects "java/lang/String" ({ cls := "java/lang/String", name := "coder", desc := "()B" } : MethodName) ({ cls := "java/lang/String", name := "coder", desc := "()B" } : MethodName)) : Cond) ∈ tbl := tb_2 (i := 59) (by decide +kernel) rfl
theorem tw_300 : ((.code ({ cls := "java/lang/String", name := "coder", desc := "()B" } : MethodName) prog_14_method_152_code (1 : Nat) (Option.some FieldType.byte)) : Cond) ∈ tbl := tb_2 (i := 60) (by decide +kernel) rfl
theorem tw_301 : ((.fieldLink "java/lang/String" (38 : Nat) "java/lang/String" "COMPACT_STRINGS" "Z") : Cond) ∈ tbl := tb_2 (i := 61) (by decide +kernel) rfl
theorem tw_303 : ((.methodLink "BundlesOfBids$Script" (100 : Nat) ({ cls := "java/lang/String", name := "charAt", desc := "(I)C" } : MethodName)) : Cond) ∈ tbl := tb_2 (i := 63) (by decide +kernel) rfl
theorem tw_304 : ((.instanceMethod ({ cls := "java/lang/String", name := "charAt", desc := "(I)C" } : MethodName)) : Cond) ∈ tbl := tb_2 (i := 64) (by decide +kernel) rfl
theorem tw_305 : ((.selects "java/lang/String" ({ cls := "java/lang/String", name := "charAt", desc := "(I)C" } : MethodName) ({ cls := "java/lang/String", name := "charAt", desc := "(I)C" } : MethodName)) : Cond) ∈ tbl := tb_2 (i := 65) (by decide +kernel) rfl
theorem tw_306 : ((.code ({ cls := "java/lang/String", name := "charAt", desc := "(I)C" } : MethodName) prog_14_method_56_code (2 : Nat) (Option.some FieldType.char)) : Cond) ∈ tbl := tb_2 (i := 66) (by decide +kernel) rfl
theorem tw_307 : ((.methodLink "java/lang/String" (492 : Nat) ({ cls := "java/lang/String", name := "isLatin1", desc := "()Z" } : MethodName)) : Cond) ∈ tbl := tb_2 (i := 67) (by decide +kernel) rfl
theorem tw_308 : ((.instanceMethod ({ cls := "java/lang/String", name := "isLatin1", desc := "()Z" } : MethodName)) : Cond) ∈ tbl := tb_2 (i := 68) (by decide +kernel) rfl
theorem tw_309 : ((.selects "java/lang/String" ({ cls := "java/lang/String", name := "isLatin1", desc := "()Z" } : MethodName) ({ cls := "java/lang/String", name := "isLatin1", desc := "()Z" } : MethodName)) : Cond) ∈ tbl := tb_2 (i := 69) (by decide +kernel) rfl
theorem tw_310 : ((.code ({ cls := "java/lang/String", name := "isLatin1", desc := "()Z" } : MethodName) prog_14_method_154_code (1 : Nat) (Option.some FieldType.boolean)) : Cond) ∈ tbl := tb_2 (i := 70) (by decide +kernel) rfl
theorem tw_311 : ((.methodLink "java/lang/String" (495 : Nat) ({ cls := "java/lang/StringLatin1", name := "charAt", desc := "([BI)C" } : MethodName)) : Cond) ∈ tbl := tb_2 (i := 71) (by decide +kernel) rfl
theorem tw_312 : ((.static ({ cls := "java/lang/StringLatin1", name := "charAt", desc := "([BI)C" } : MethodName)) : Cond) ∈ tbl := tb_2 (i := 72) (by decide +kernel) rfl
theorem tw_313 : ((.code ({ cls := "java/lang/StringLatin1", name := "charAt", desc := "([BI)C" } : MethodName) prog_16_method_2_code (2 : Nat) (Option.some FieldType.char)) : Cond) ∈ tbl := tb_2 (i := 73) (by decide +kernel) rfl
theorem tw_314 : ((.methodLink "java/lang/StringLatin1" (9 : Nat) ({ cls := "java/lang/String", name := "checkIndex", desc := "(II)V" } : MethodName)) : Cond) ∈ tbl := tb_2 (i := 74) (by decide +kernel) rfl
theorem tw_315 : ((.static ({ cls := "java/lang/String", name := "checkIndex", desc := "(II)V" } : MethodName)) : Cond) ∈ tbl := tb_2 (i := 75) (by decide +kernel) rfl
theorem tw_316 : ((.code ({ cls := "java/lang/String", name := "checkIndex", desc := "(II)V" } : MethodName) prog_14_method_155_code (2 : Nat) (Option.none : Option FieldType)) : Cond) ∈ tbl := tb_2 (i := 76) (by decide +kernel) rfl
theorem tw_317 : ((.fieldLink "java/lang/String" (1053 : Nat) "jdk/internal/util/Preconditions" "SIOOBE_FORMATTER" "Ljava/util/function/BiFunction;") : Cond) ∈ tbl := tb_2 (i := 77) (by decide +kernel) rfl
theorem tw_319 : ((.methodLink "java/lang/String" (1059 : Nat) ({ cls := "jdk/internal/util/Preconditions", name := "checkIndex", desc := "(IILjava/util/function/BiFunction;)I" } : MethodName)) : Cond) ∈ tbl := tb_2 (i := 79) (by decide +kernel) rfl
theorem tw_320 : ((.static ({ cls := "jdk/internal/util/Preconditions", name := "checkIndex", desc := "(IILjava/util/function/BiFunction;)I" } : MethodName)) : Cond) ∈ tbl := tb_2 (i := 80) (by decide +kernel) rfl
theorem tw_321 : ((.code ({ cls := "jdk/internal/util/Preconditions", name := "checkIndex", desc := "(IILjava/util/function/BiFunction;)I" } : MethodName) prog_21_method_11_code (3 : Nat) (some FieldType.int)) : Cond) ∈ tbl := tb_2 (i := 81) (by decide +kernel) rfl
theorem tw_322 : ((.methodLink "java/lang/String" (498 : Nat) ({ cls := "java/lang/StringUTF16", name := "charAt", desc := "([BI)C" } : MethodName)) : Cond) ∈ tbl := tb_2 (i := 82) (by decide +kernel) rfl
theorem tw_323 : ((.static ({ cls := "java/lang/StringUTF16", name := "charAt", desc := "([BI)C" } : MethodName)) : Cond) ∈ tbl := tb_2 (i := 83) (by decide +kernel) rfl
theorem tw_324 : ((.code ({ cls := "java/lang/StringUTF16", name := "charAt", desc := "([BI)C" } : MethodName) prog_17_method_83_code (2 : Nat) (Option.some FieldType.char)) : Cond) ∈ tbl := tb_2 (i := 84) (by decide +kernel) rfl
theorem tw_325 : ((.methodLink "java/lang/StringUTF16" (67 : Nat) ({ cls := "java/lang/StringUTF16", name := "checkIndex", desc := "(I[B)V" } : MethodName)) : Cond) ∈ tbl := tb_2 (i := 85) (by decide +kernel) rfl
theorem tw_326 : ((.static ({ cls := "java/lang/StringUTF16", name := "checkIndex", desc := "(I[B)V" } : MethodName)) : Cond) ∈ tbl := tb_2 (i := 86) (by decide +kernel) rfl
theorem tw_327 : ((.code ({ cls := "java/lang/StringUTF16", name := "checkIndex", desc := "(I[B)V" } : MethodName) prog_17_method_91_code (2 : Nat) (Option.none : Option FieldType)) : Cond) ∈ tbl := tb_2 (i := 87) (by decide +kernel) rfl
theorem tw_328 : ((.methodLink "java/lang/StringUTF16" (48 : Nat) ({ cls := "java/lang/StringUTF16", name := "length", desc := "([B)I" } : MethodName)) : Cond) ∈ tbl := tb_2 (i := 88) (by decide +kernel) rfl
theorem tw_329 : ((.static ({ cls := "java/lang/StringUTF16", name := "length", desc := "([B)I" } : MethodName)) : Cond) ∈ tbl := tb_2 (i := 89) (by decide +kernel) rfl
theorem tw_330 : ((.code ({ cls := "java/lang/StringUTF16", name := "length", desc := "([B)I" } : MethodName) prog_17_method_6_code (1 : Nat) (some FieldType.int)) : Cond) ∈ tbl := tb_2 (i := 90) (by decide +kernel) rfl
theorem tw_331 : ((.methodLink "java/lang/StringUTF16" (414 : Nat) ({ cls := "java/lang/String", name := "checkIndex", desc := "(II)V" } : MethodName)) : Cond) ∈ tbl := tb_2 (i := 91) (by decide +kernel) rfl
theorem tw_332 : ((.methodLink "java/lang/StringUTF16" (71 : Nat) ({ cls := "java/lang/StringUTF16", name := "getChar", desc := "([BI)C" } : MethodName)) : Cond) ∈ tbl := tb_2 (i := 92) (by decide +kernel) rfl
theorem tw_333 : ((.static ({ cls := "java/lang/StringUTF16", name := "getChar", desc := "([BI)C" } : MethodName)) : Cond) ∈ tbl := tb_2 (i := 93) (by decide +kernel) rfl
theorem tw_334 : ((.code ({ cls := "java/lang/StringUTF16", name := "getChar", desc := "([BI)C" } : MethodName) prog_17_method_5_code (2 : Nat) (Option.some FieldType.char)) : Cond) ∈ tbl := tb_2 (i := 94) (by decide +kernel) rfl
theorem tw_335 : ((.fieldLink "java/lang/StringUTF16" (44 : Nat) "java/lang/StringUTF16" "$assertionsDisabled" "Z") : Cond) ∈ tbl := tb_2 (i := 95) (by decide +kernel) rfl
theorem tw_337 : ((.fieldLink "java/lang/StringUTF16" (59 : Nat) "java/lang/StringUTF16" "HI_BYTE_SHIFT" "I") : Cond) ∈ tbl := tb_2 (i := 97) (by decide +kernel) rfl
theorem tw_339 : ((.fieldLink "java/lang/StringUTF16" (63 : Nat) "java/lang/StringUTF16" "LO_BYTE_SHIFT" "I") : Cond) ∈ tbl := tb_2 (i := 99) (by decide +kernel) rfl
theorem tw_345 : ((.methodLink "BundlesOfBids$Script" (70 : Nat) ({ cls := "BundlesOfBids$Script", name := "noteFault", desc := "(I)V" } : MethodName)) : Cond) ∈ tbl := tb_2 (i := 105) (by decide +kernel) rfl
theorem tw_347 : ((.instanceMethod ({ cls := "BundlesOfBids$Script", name := "noteFault", desc := "(I)V" } : MethodName)) : Cond) ∈ tbl := tb_2 (i := 107) (by decide +kernel) rfl
theorem tw_348 : ((.code ({ cls := "BundlesOfBids$Script", name := "noteFault", desc := "(I)V" } : MethodName) prog_6_method_10_code (2 : Nat) (Option.none : Option FieldType)) : Cond) ∈ tbl := tb_2 (i := 108) (by decide +kernel) rfl
theorem tw_349 : ((.methodLink "BundlesOfBids$Script" (54 : Nat) ({ cls := "BundlesOfBids$Script", name := "readSign", desc := "(I)V" } : MethodName)) : Cond) ∈ tbl := tb_2 (i := 109) (by decide +kernel) rfl
theorem tw_351 : ((.instanceMethod ({ cls := "BundlesOfBids$Script", name := "readSign", desc := "(I)V" } : MethodName)) : Cond) ∈ tbl := tb_2 (i := 111) (by decide +kernel) rfl
theorem tw_352 : ((.code ({ cls := "BundlesOfBids$Script", name := "readSign", desc := "(I)V" } : MethodName) prog_6_method_11_code (2 : Nat) (Option.none : Option FieldType)) : Cond) ∈ tbl := tb_2 (i := 112) (by decide +kernel) rfl
theorem tw_353 : ((.methodLink "BundlesOfBids$Script" (58 : Nat) ({ cls := "BundlesOfBids$Script", name := "readItem", desc := "()I" } : MethodName)) : Cond) ∈ tbl := tb_2 (i := 113) (by decide +kernel) rfl
theorem tw_355 : ((.instanceMethod ({ cls := "BundlesOfBids$Script", name := "readItem", desc := "()I" } : MethodName)) : Cond) ∈ tbl := tb_2 (i := 115) (by decide +kernel) rfl
theorem tw_356 : ((.code ({ cls := "BundlesOfBids$Script", name := "readItem", desc := "()I" } : MethodName) prog_6_method_16_code (2 : Nat) (some FieldType.int)) : Cond) ∈ tbl := tb_2 (i := 116) (by decide +kernel) rfl
theorem tw_357 : ((.methodLink "BundlesOfBids$Script" (61 : Nat) ({ cls := "BundlesOfBids$Script", name := "readNumber", desc := "()I" } : MethodName)) : Cond) ∈ tbl := tb_2 (i := 117) (by decide +kernel) rfl
theorem tw_359 : ((.instanceMethod ({ cls := "BundlesOfBids$Script", name := "readNumber", desc := "()I" } : MethodName)) : Cond) ∈ tbl := tb_2 (i := 119) (by decide +kernel) rfl
theorem tw_360 : ((.code ({ cls := "BundlesOfBids$Script", name := "readNumber", desc := "()I" } : MethodName) prog_6_method_15_code (3 : Nat) (some FieldType.int)) : Cond) ∈ tbl := tb_2 (i := 120) (by decide +kernel) rfl
theorem tw_361 : ((.methodLink "BundlesOfBids$Script" (104 : Nat) ({ cls := "BundlesOfBids$Script", name := "isDigit", desc := "(I)Z" } : MethodName)) : Cond) ∈ tbl := tb_2 (i := 121) (by decide +kernel) rfl
theorem tw_362 : ((.static ({ cls := "BundlesOfBids$Script", name := "isDigit", desc := "(I)Z" } : MethodName)) : Cond) ∈ tbl := tb_2 (i := 122) (by decide +kernel) rfl
theorem tw_363 : ((.code ({ cls := "BundlesOfBids$Script", name := "isDigit", desc := "(I)Z" } : MethodName) prog_6_method_9_code (1 : Nat) (Option.some FieldType.boolean)) : Cond) ∈ tbl := tb_2 (i := 123) (by decide +kernel) rfl
theorem tw_364 : ((.methodLink "BundlesOfBids$Script" (64 : Nat) ({ cls := "BundlesOfBids$Script", name := "readSet", desc := "()I" } : MethodName)) : Cond) ∈ tbl := tb_2 (i := 124) (by decide +kernel) rfl
theorem tw_366 : ((.instanceMethod ({ cls := "BundlesOfBids$Script", name := "readSet", desc := "()I" } : MethodName)) : Cond) ∈ tbl := tb_2 (i := 126) (by decide +kernel) rfl
theorem tw_367 : ((.code ({ cls := "BundlesOfBids$Script", name := "readSet", desc := "()I" } : MethodName) prog_6_method_17_code (5 : Nat) (some FieldType.int)) : Cond) ∈ tbl := tb_2 (i := 127) (by decide +kernel) rfl
theorem tw_368 : ((.methodLink "BundlesOfBids" (87 : Nat) ({ cls := "BundlesOfBids", name := "obeyScript", desc := "()I" } : MethodName)) : Cond) ∈ tbl := tb_2 (i := 128) (by decide +kernel) rfl
theorem tw_370 : ((.instanceMethod ({ cls := "BundlesOfBids", name := "obeyScript", desc := "()I" } : MethodName)) : Cond) ∈ tbl := tb_2 (i := 130) (by decide +kernel) rfl
theorem tw_371 : ((.code ({ cls := "BundlesOfBids", name := "obeyScript", desc := "()I" } : MethodName) prog_1_method_51_code (2 : Nat) (some FieldType.int)) : Cond) ∈ tbl := tb_2 (i := 131) (by decide +kernel) rfl
theorem tn_372 : ((.methodLinkNest "BundlesOfBids" (276 : Nat) ({ cls := "BundlesOfBids$Sale", name := "takeFrom", desc := "(LBundlesOfBids$Sale;)V" } : MethodName) "BundlesOfBids") : Cond) ∈ tbn := tn__2 (i := 132) (by decide +kernel) rfl
theorem tw_374 : ((.instanceMethod ({ cls := "BundlesOfBids$Sale", name := "takeFrom", desc := "(LBundlesOfBids$Sale;)V" } : MethodName)) : Cond) ∈ tbl := tb_2 (i := 134) (by decide +kernel) rfl
theorem tw_375 : ((.code ({ cls := "BundlesOfBids$Sale", name := "takeFrom", desc := "(LBundlesOfBids$Sale;)V" } : MethodName) prog_5_method_2_code (2 : Nat) (Option.none : Option FieldType)) : Cond) ∈ tbl := tb_2 (i := 135) (by decide +kernel) rfl
theorem tw_376 : ((.methodLink "BundlesOfBids$Sale" (40 : Nat) ({ cls := "java/lang/System", name := "arraycopy", desc := "(Ljava/lang/Object;ILjava/lang/Object;II)V" } : MethodName)) : Cond) ∈ tbl := tb_2 (i := 136) (by decide +kernel) rfl
theorem tw_377 : ((.static ({ cls := "java/lang/System", name := "arraycopy", desc := "(Ljava/lang/Object;ILjava/lang/Object;II)V" } : MethodName)) : Cond) ∈ tbl := tb_2 (i := 137) (by decide +kernel) rfl
theorem tw_378 : ((.native ({ cls := "java/lang/System", name := "arraycopy", desc := "(Ljava/lang/Object;ILjava/lang/Object;II)V" } : MethodName)) : Cond) ∈ tbl := tb_2 (i := 138) (by decide +kernel) rfl
theorem tn_379 : ((.methodLinkNest "BundlesOfBids" (328 : Nat) ({ cls := "BundlesOfBids$Script", name := "obey", desc := "(LBundlesOfBids$Sale;)I" } : MethodName) "BundlesOfBids") : Cond) ∈ tbn := tn__2 (i := 139) (by decide +kernel) rfl
theorem tw_381 : ((.instanceMethod ({ cls := "BundlesOfBids$Script", name := "obey", desc := "(LBundlesOfBids$Sale;)I" } : MethodName)) : Cond) ∈ tbl := tb_2 (i := 141) (by decide +kernel) rfl
theorem tw_382 : ((.code ({ cls := "BundlesOfBids$Script", name := "obey", desc := "(LBundlesOfBids$Sale;)I" } : MethodName) prog_6_method_18_code (3 : Nat) (some FieldType.int)) : Cond) ∈ tbl := tb_2 (i := 142) (by decide +kernel) rfl
theorem tw_383 : ((.methodLink "BundlesOfBids$Script" (107 : Nat) ({ cls := "BundlesOfBids$Script", name := "isRight", desc := "(LBundlesOfBids$Sale;I)Z" } : MethodName)) : Cond) ∈ tbl := tb_2 (i := 143) (by decide +kernel) rfl
theorem tw_385 : ((.instanceMethod ({ cls := "BundlesOfBids$Script", name := "isRight", desc := "(LBundlesOfBids$Sale;I)Z" } : MethodName)) : Cond) ∈ tbl := tb_2 (i := 145) (by decide +kernel) rfl
theorem tw_386 : ((.code ({ cls := "BundlesOfBids$Script", name := "isRight", desc := "(LBundlesOfBids$Sale;I)Z" } : MethodName) prog_6_method_19_code (3 : Nat) (Option.some FieldType.boolean)) : Cond) ∈ tbl := tb_2 (i := 146) (by decide +kernel) rfl
theorem tn_387 : ((.methodLinkNest "BundlesOfBids$Script" (115 : Nat) ({ cls := "BundlesOfBids", name := "isBidder", desc := "(I)Z" } : MethodName) "BundlesOfBids") : Cond) ∈ tbn := tn__2 (i := 147) (by decide +kernel) rfl
theorem tw_388 : ((.static ({ cls := "BundlesOfBids", name := "isBidder", desc := "(I)Z" } : MethodName)) : Cond) ∈ tbl := tb_2 (i := 148) (by decide +kernel) rfl
theorem tw_389 : ((.code ({ cls := "BundlesOfBids", name := "isBidder", desc := "(I)Z" } : MethodName) prog_1_method_39_code (1 : Nat) (Option.some FieldType.boolean)) : Cond) ∈ tbl := tb_2 (i := 149) (by decide +kernel) rfl
theorem tn_390 : ((.methodLinkNest "BundlesOfBids$Script" (118 : Nat) ({ cls := "BundlesOfBids$Sale", name := "isFull", desc := "()Z" } : MethodName) "BundlesOfBids") : Cond) ∈ tbn := tn__2 (i := 150) (by decide +kernel) rfl
theorem tw_392 : ((.instanceMethod ({ cls := "BundlesOfBids$Sale", name := "isFull", desc := "()Z" } : MethodName)) : Cond) ∈ tbl := tb_2 (i := 152) (by decide +kernel) rfl
theorem tw_393 : ((.code ({ cls := "BundlesOfBids$Sale", name := "isFull", desc := "()Z" } : MethodName) prog_5_method_3_code (1 : Nat) (Option.some FieldType.boolean)) : Cond) ∈ tbl := tb_2 (i := 153) (by decide +kernel) rfl
theorem tn_394 : ((.methodLinkNest "BundlesOfBids$Script" (121 : Nat) ({ cls := "BundlesOfBids$Sale", name := "hasBid", desc := "(I)Z" } : MethodName) "BundlesOfBids") : Cond) ∈ tbn := tn__2 (i := 154) (by decide +kernel) rfl
theorem tw_396 : ((.instanceMethod ({ cls := "BundlesOfBids$Sale", name := "hasBid", desc := "(I)Z" } : MethodName)) : Cond) ∈ tbl := tb_2 (i := 156) (by decide +kernel) rfl
theorem tw_397 : ((.code ({ cls := "BundlesOfBids$Sale", name := "hasBid", desc := "(I)Z" } : MethodName) prog_5_method_4_code (2 : Nat) (Option.some FieldType.boolean)) : Cond) ∈ tbl := tb_2 (i := 157) (by decide +kernel) rfl
theorem tn_398 : ((.methodLinkNest "BundlesOfBids$Script" (124 : Nat) ({ cls := "BundlesOfBids", name := "isItem", desc := "(I)Z" } : MethodName) "BundlesOfBids") : Cond) ∈ tbn := tn__2 (i := 158) (by decide +kernel) rfl
theorem tw_399 : ((.static ({ cls := "BundlesOfBids", name := "isItem", desc := "(I)Z" } : MethodName)) : Cond) ∈ tbl := tb_2 (i := 159) (by decide +kernel) rfl
theorem tw_400 : ((.code ({ cls := "BundlesOfBids", name := "isItem", desc := "(I)Z" } : MethodName) prog_1_method_40_code (1 : Nat) (Option.some FieldType.boolean)) : Cond) ∈ tbl := tb_2 (i := 160) (by decide +kernel) rfl
theorem tw_401 : ((.methodLink "BundlesOfBids$Script" (111 : Nat) ({ cls := "BundlesOfBids$Script", name := "carryOut", desc := "(LBundlesOfBids$Sale;IIII)V" } : MethodName)) : Cond) ∈ tbl := tb_2 (i := 161) (by decide +kernel) rfl
theorem tw_402 : ((.static ({ cls := "BundlesOfBids$Script", name := "carryOut", desc := "(LBundlesOfBids$Sale;IIII)V" } : MethodName)) : Cond) ∈ tbl := tb_2 (i := 162) (by decide +kernel) rfl
theorem tw_403 : ((.code ({ cls := "BundlesOfBids$Script", name := "carryOut", desc := "(LBundlesOfBids$Sale;IIII)V" } : MethodName) prog_6_method_20_code (5 : Nat) (Option.none : Option FieldType)) : Cond) ∈ tbl := tb_2 (i := 163) (by decide +kernel) rfl
theorem tn_404 : ((.methodLinkNest "BundlesOfBids$Script" (127 : Nat) ({ cls := "BundlesOfBids$Sale", name := "addBid", desc := "(III)V" } : MethodName) "BundlesOfBids") : Cond) ∈ tbn := tn__2 (i := 164) (by decide +kernel) rfl
theorem tw_406 : ((.instanceMethod ({ cls := "BundlesOfBids$Sale", name := "addBid", desc := "(III)V" } : MethodName)) : Cond) ∈ tbl := tb_2 (i := 166) (by decide +kernel) rfl
theorem tw_407 : ((.code ({ cls := "BundlesOfBids$Sale", name := "addBid", desc := "(III)V" } : MethodName) prog_5_method_11_code (4 : Nat) (Option.none : Option FieldType)) : Cond) ∈ tbl := tb_2 (i := 167) (by decide +kernel) rfl
theorem tw_408 : ((.methodLink "BundlesOfBids$Sale" (56 : Nat) ({ cls := "BundlesOfBids$Sale", name := "isFull", desc := "()Z" } : MethodName)) : Cond) ∈ tbl := tb_2 (i := 168) (by decide +kernel) rfl
theorem tn_409 : ((.methodLinkNest "BundlesOfBids$Sale" (50 : Nat) ({ cls := "BundlesOfBids", name := "isBidder", desc := "(I)Z" } : MethodName) "BundlesOfBids") : Cond) ∈ tbn := tn__2 (i := 169) (by decide +kernel) rfl
theorem tn_410 : ((.methodLinkNest "BundlesOfBids$Script" (131 : Nat) ({ cls := "BundlesOfBids$Sale", name := "turnOver", desc := "(I)V" } : MethodName) "BundlesOfBids") : Cond) ∈ tbn := tn__2 (i := 170) (by decide +kernel) rfl
theorem tw_412 : ((.instanceMethod ({ cls := "BundlesOfBids$Sale", name := "turnOver", desc := "(I)V" } : MethodName)) : Cond) ∈ tbl := tb_2 (i := 172) (by decide +kernel) rfl
theorem tw_413 : ((.code ({ cls := "BundlesOfBids$Sale", name := "turnOver", desc := "(I)V" } : MethodName) prog_5_method_12_code (2 : Nat) (Option.none : Option FieldType)) : Cond) ∈ tbl := tb_2 (i := 173) (by decide +kernel) rfl
theorem tw_414 : ((.methodLink "BundlesOfBids$Sale" (46 : Nat) ({ cls := "BundlesOfBids$Sale", name := "hasBid", desc := "(I)Z" } : MethodName)) : Cond) ∈ tbl := tb_2 (i := 174) (by decide +kernel) rfl
theorem tn_415 : ((.methodLinkNest "BundlesOfBids$Script" (134 : Nat) ({ cls := "BundlesOfBids$Sale", name := "setKind", desc := "(III)V" } : MethodName) "BundlesOfBids") : Cond) ∈ tbn := tn__2 (i := 175) (by decide +kernel) rfl
theorem tw_417 : ((.instanceMethod ({ cls := "BundlesOfBids$Sale", name := "setKind", desc := "(III)V" } : MethodName)) : Cond) ∈ tbl := tb_2 (i := 177) (by decide +kernel) rfl
theorem tw_418 : ((.code ({ cls := "BundlesOfBids$Sale", name := "setKind", desc := "(III)V" } : MethodName) prog_5_method_14_code (4 : Nat) (Option.none : Option FieldType)) : Cond) ∈ tbl := tb_2 (i := 178) (by decide +kernel) rfl
theorem tn_419 : ((.methodLinkNest "BundlesOfBids$Script" (137 : Nat) ({ cls := "BundlesOfBids$Sale", name := "setReserve", desc := "(II)V" } : MethodName) "BundlesOfBids") : Cond) ∈ tbn := tn__2 (i := 179) (by decide +kernel) rfl
theorem tw_421 : ((.instanceMethod ({ cls := "BundlesOfBids$Sale", name := "setReserve", desc := "(II)V" } : MethodName)) : Cond) ∈ tbl := tb_2 (i := 181) (by decide +kernel) rfl
theorem tw_422 : ((.code ({ cls := "BundlesOfBids$Sale", name := "setReserve", desc := "(II)V" } : MethodName) prog_5_method_15_code (3 : Nat) (Option.none : Option FieldType)) : Cond) ∈ tbl := tb_2 (i := 182) (by decide +kernel) rfl
theorem tn_423 : ((.methodLinkNest "BundlesOfBids$Sale" (53 : Nat) ({ cls := "BundlesOfBids", name := "isItem", desc := "(I)Z" } : MethodName) "BundlesOfBids") : Cond) ∈ tbn := tn__2 (i := 183) (by decide +kernel) rfl
theorem tn_424 : ((.methodLinkNest "BundlesOfBids$Script" (141 : Nat) ({ cls := "BundlesOfBids$Sale", name := "setPrice", desc := "(II)V" } : MethodName) "BundlesOfBids") : Cond) ∈ tbn := tn__2 (i := 184) (by decide +kernel) rfl
theorem tw_426 : ((.instanceMethod ({ cls := "BundlesOfBids$Sale", name := "setPrice", desc := "(II)V" } : MethodName)) : Cond) ∈ tbl := tb_2 (i := 186) (by decide +kernel) rfl
theorem tw_427 : ((.code ({ cls := "BundlesOfBids$Sale", name := "setPrice", desc := "(II)V" } : MethodName) prog_5_method_13_code (3 : Nat) (Option.none : Option FieldType)) : Cond) ∈ tbl := tb_2 (i := 187) (by decide +kernel) rfl
theorem tn_428 : ((.methodLinkNest "BundlesOfBids" (90 : Nat) ({ cls := "BundlesOfBids$Script", name := "forget", desc := "()V" } : MethodName) "BundlesOfBids") : Cond) ∈ tbn := tn__2 (i := 188) (by decide +kernel) rfl
theorem tw_430 : ((.instanceMethod ({ cls := "BundlesOfBids$Script", name := "forget", desc := "()V" } : MethodName)) : Cond) ∈ tbl := tb_2 (i := 190) (by decide +kernel) rfl
theorem tw_431 : ((.code ({ cls := "BundlesOfBids$Script", name := "forget", desc := "()V" } : MethodName) prog_6_method_4_code (1 : Nat) (Option.none : Option FieldType)) : Cond) ∈ tbl := tb_2 (i := 191) (by decide +kernel) rfl
theorem tw_432 : ((.arrayClass FieldType.byte) : Cond) ∈ tbl := tb_2 (i := 192) (by decide +kernel) rfl
theorem tw_433 : ((.methodLink "BundlesOfBidsLaw" (23 : Nat) ({ cls := "BundlesOfBids", name := "bids", desc := "(III)I" } : MethodName)) : Cond) ∈ tbl := tb_2 (i := 193) (by decide +kernel) rfl
theorem tw_434 : ((.instanceMethod ({ cls := "BundlesOfBids", name := "bids", desc := "(III)I" } : MethodName)) : Cond) ∈ tbl := tb_2 (i := 194) (by decide +kernel) rfl
theorem tw_435 : ((.selects "BundlesOfBids" ({ cls := "BundlesOfBids", name := "bids", desc := "(III)I" } : MethodName) ({ cls := "BundlesOfBids", name := "bids", desc := "(III)I" } : MethodName)) : Cond) ∈ tbl := tb_2 (i := 195) (by decide +kernel) rfl
theorem tw_436 : ((.code ({ cls := "BundlesOfBids", name := "bids", desc := "(III)I" } : MethodName) prog_1_method_4_code (4 : Nat) (some FieldType.int)) : Cond) ∈ tbl := tb_2 (i := 196) (by decide +kernel) rfl
theorem tw_437 : ((.methodLink "BundlesOfBids" (93 : Nat) ({ cls := "BundlesOfBids", name := "isBidder", desc := "(I)Z" } : MethodName)) : Cond) ∈ tbl := tb_2 (i := 197) (by decide +kernel) rfl
theorem tn_438 : ((.methodLinkNest "BundlesOfBids" (97 : Nat) ({ cls := "BundlesOfBids$Sale", name := "isFull", desc := "()Z" } : MethodName) "BundlesOfBids") : Cond) ∈ tbn := tn__2 (i := 198) (by decide +kernel) rfl
theorem tn_439 : ((.methodLinkNest "BundlesOfBids" (98 : Nat) ({ cls := "BundlesOfBids$Sale", name := "addBid", desc := "(III)V" } : MethodName) "BundlesOfBids") : Cond) ∈ tbn := tn__2 (i := 199) (by decide +kernel) rfl
theorem tw_440 : ((.methodLink "BundlesOfBidsLaw" (28 : Nat) ({ cls := "BundlesOfBids", name := "turns", desc := "(I)I" } : MethodName)) : Cond) ∈ tbl := tb_2 (i := 200) (by decide +kernel) rfl
theorem tw_441 : ((.instanceMethod ({ cls := "BundlesOfBids", name := "turns", desc := "(I)I" } : MethodName)) : Cond) ∈ tbl := tb_2 (i := 201) (by decide +kernel) rfl
theorem tw_442 : ((.selects "BundlesOfBids" ({ cls := "BundlesOfBids", name := "turns", desc := "(I)I" } : MethodName) ({ cls := "BundlesOfBids", name := "turns", desc := "(I)I" } : MethodName)) : Cond) ∈ tbl := tb_2 (i := 202) (by decide +kernel) rfl
theorem tw_443 : ((.code ({ cls := "BundlesOfBids", name := "turns", desc := "(I)I" } : MethodName) prog_1_method_5_code (2 : Nat) (some FieldType.int)) : Cond) ∈ tbl := tb_2 (i := 203) (by decide +kernel) rfl
theorem tn_444 : ((.methodLinkNest "BundlesOfBids" (105 : Nat) ({ cls := "BundlesOfBids$Sale", name := "hasBid", desc := "(I)Z" } : MethodName) "BundlesOfBids") : Cond) ∈ tbn := tn__2 (i := 204) (by decide +kernel) rfl
theorem tn_445 : ((.methodLinkNest "BundlesOfBids" (108 : Nat) ({ cls := "BundlesOfBids$Sale", name := "turnOver", desc := "(I)V" } : MethodName) "BundlesOfBids") : Cond) ∈ tbn := tn__2 (i := 205) (by decide +kernel) rfl
theorem tw_446 : ((.methodLink "BundlesOfBids" (115 : Nat) ({ cls := "BundlesOfBids", name := "bitAt", desc := "(II)I" } : MethodName)) : Cond) ∈ tbl := tb_2 (i := 206) (by decide +kernel) rfl
theorem tw_447 : ((.static ({ cls := "BundlesOfBids", name := "bitAt", desc := "(II)I" } : MethodName)) : Cond) ∈ tbl := tb_2 (i := 207) (by decide +kernel) rfl
theorem tw_448 : ((.code ({ cls := "BundlesOfBids", name := "bitAt", desc := "(II)I" } : MethodName) prog_1_method_44_code (2 : Nat) (some FieldType.int)) : Cond) ∈ tbl := tb_2 (i := 208) (by decide +kernel) rfl
theorem tw_449 : ((.methodLink "BundlesOfBidsLaw" (32 : Nat) ({ cls := "BundlesOfBids", name := "price", desc := "(II)I" } : MethodName)) : Cond) ∈ tbl := tb_2 (i := 209) (by decide +kernel) rfl
theorem tw_450 : ((.instanceMethod ({ cls := "BundlesOfBids", name := "price", desc := "(II)I" } : MethodName)) : Cond) ∈ tbl := tb_2 (i := 210) (by decide +kernel) rfl
theorem tw_451 : ((.selects "BundlesOfBids" ({ cls := "BundlesOfBids", name := "price", desc := "(II)I" } : MethodName) ({ cls := "BundlesOfBids", name := "price", desc := "(II)I" } : MethodName)) : Cond) ∈ tbl := tb_2 (i := 211) (by decide +kernel) rfl
theorem tw_452 : ((.code ({ cls := "BundlesOfBids", name := "price", desc := "(II)I" } : MethodName) prog_1_method_6_code (4 : Nat) (some FieldType.int)) : Cond) ∈ tbl := tb_2 (i := 212) (by decide +kernel) rfl
theorem tn_453 : ((.methodLinkNest "BundlesOfBids" (119 : Nat) ({ cls := "BundlesOfBids$Sale", name := "priceOf", desc := "(I)I" } : MethodName) "BundlesOfBids") : Cond) ∈ tbn := tn__2 (i := 213) (by decide +kernel) rfl
theorem tw_455 : ((.instanceMethod ({ cls := "BundlesOfBids$Sale", name := "priceOf", desc := "(I)I" } : MethodName)) : Cond) ∈ tbl := tb_2 (i := 215) (by decide +kernel) rfl
theorem tw_456 : ((.code ({ cls := "BundlesOfBids$Sale", name := "priceOf", desc := "(I)I" } : MethodName) prog_5_method_7_code (2 : Nat) (some FieldType.int)) : Cond) ∈ tbl := tb_2 (i := 216) (by decide +kernel) rfl
theorem tn_457 : ((.methodLinkNest "BundlesOfBids" (122 : Nat) ({ cls := "BundlesOfBids$Sale", name := "setPrice", desc := "(II)V" } : MethodName) "BundlesOfBids") : Cond) ∈ tbn := tn__2 (i := 217) (by decide +kernel) rfl
theorem tw_458 : ((.methodLink "BundlesOfBidsLaw" (37 : Nat) ({ cls := "BundlesOfBids", name := "kind", desc := "(III)I" } : MethodName)) : Cond) ∈ tbl := tb_2 (i := 218) (by decide +kernel) rfl
theorem tw_459 : ((.instanceMethod ({ cls := "BundlesOfBids", name := "kind", desc := "(III)I" } : MethodName)) : Cond) ∈ tbl := tb_2 (i := 219) (by decide +kernel) rfl
theorem tw_460 : ((.selects "BundlesOfBids" ({ cls := "BundlesOfBids", name := "kind", desc := "(III)I" } : MethodName) ({ cls := "BundlesOfBids", name := "kind", desc := "(III)I" } : MethodName)) : Cond) ∈ tbl := tb_2 (i := 220) (by decide +kernel) rfl
theorem tw_461 : ((.code ({ cls := "BundlesOfBids", name := "kind", desc := "(III)I" } : MethodName) prog_1_method_7_code (5 : Nat) (some FieldType.int)) : Cond) ∈ tbl := tb_2 (i := 221) (by decide +kernel) rfl
theorem tn_462 : ((.methodLinkNest "BundlesOfBids" (126 : Nat) ({ cls := "BundlesOfBids$Sale", name := "kindOf", desc := "(I)I" } : MethodName) "BundlesOfBids") : Cond) ∈ tbn := tn__2 (i := 222) (by decide +kernel) rfl
theorem tw_464 : ((.instanceMethod ({ cls := "BundlesOfBids$Sale", name := "kindOf", desc := "(I)I" } : MethodName)) : Cond) ∈ tbl := tb_2 (i := 224) (by decide +kernel) rfl
theorem tw_465 : ((.code ({ cls := "BundlesOfBids$Sale", name := "kindOf", desc := "(I)I" } : MethodName) prog_5_method_8_code (2 : Nat) (some FieldType.int)) : Cond) ∈ tbl := tb_2 (i := 225) (by decide +kernel) rfl
theorem tn_466 : ((.methodLinkNest "BundlesOfBids" (129 : Nat) ({ cls := "BundlesOfBids$Sale", name := "figureOf", desc := "(I)I" } : MethodName) "BundlesOfBids") : Cond) ∈ tbn := tn__2 (i := 226) (by decide +kernel) rfl
theorem tw_468 : ((.instanceMethod ({ cls := "BundlesOfBids$Sale", name := "figureOf", desc := "(I)I" } : MethodName)) : Cond) ∈ tbl := tb_2 (i := 228) (by decide +kernel) rfl
theorem tw_469 : ((.code ({ cls := "BundlesOfBids$Sale", name := "figureOf", desc := "(I)I" } : MethodName) prog_5_method_9_code (2 : Nat) (some FieldType.int)) : Cond) ∈ tbl := tb_2 (i := 229) (by decide +kernel) rfl
theorem tn_470 : ((.methodLinkNest "BundlesOfBids" (132 : Nat) ({ cls := "BundlesOfBids$Sale", name := "setKind", desc := "(III)V" } : MethodName) "BundlesOfBids") : Cond) ∈ tbn := tn__2 (i := 230) (by decide +kernel) rfl
theorem tw_471 : ((.methodLink "BundlesOfBidsLaw" (41 : Nat) ({ cls := "BundlesOfBids", name := "keep", desc := "(II)I" } : MethodName)) : Cond) ∈ tbl := tb_2 (i := 231) (by decide +kernel) rfl
theorem tw_472 : ((.instanceMethod ({ cls := "BundlesOfBids", name := "keep", desc := "(II)I" } : MethodName)) : Cond) ∈ tbl := tb_2 (i := 232) (by decide +kernel) rfl
theorem tw_473 : ((.selects "BundlesOfBids" ({ cls := "BundlesOfBids", name := "keep", desc := "(II)I" } : MethodName) ({ cls := "BundlesOfBids", name := "keep", desc := "(II)I" } : MethodName)) : Cond) ∈ tbl := tb_2 (i := 233) (by decide +kernel) rfl
theorem tw_474 : ((.code ({ cls := "BundlesOfBids", name := "keep", desc := "(II)I" } : MethodName) prog_1_method_8_code (4 : Nat) (some FieldType.int)) : Cond) ∈ tbl := tb_2 (i := 234) (by decide +kernel) rfl
theorem tw_475 : ((.methodLink "BundlesOfBids" (135 : Nat) ({ cls := "BundlesOfBids", name := "isItem", desc := "(I)Z" } : MethodName)) : Cond) ∈ tbl := tb_2 (i := 235) (by decide +kernel) rfl
theorem tn_476 : ((.methodLinkNest "BundlesOfBids" (138 : Nat) ({ cls := "BundlesOfBids$Sale", name := "reserveOf", desc := "(I)I" } : MethodName) "BundlesOfBids") : Cond) ∈ tbn := tn__2 (i := 236) (by decide +kernel) rfl
theorem tw_478 : ((.instanceMethod ({ cls := "BundlesOfBids$Sale", name := "reserveOf", desc := "(I)I" } : MethodName)) : Cond) ∈ tbl := tb_2 (i := 238) (by decide +kernel) rfl
theorem tw_479 : ((.code ({ cls := "BundlesOfBids$Sale", name := "reserveOf", desc := "(I)I" } : MethodName) prog_5_method_10_code (2 : Nat) (some FieldType.int)) : Cond) ∈ tbl := tb_2 (i := 239) (by decide +kernel) rfl
theorem tn_480 : ((.methodLinkNest "BundlesOfBids" (141 : Nat) ({ cls := "BundlesOfBids$Sale", name := "setReserve", desc := "(II)V" } : MethodName) "BundlesOfBids") : Cond) ∈ tbn := tn__3 (i := 0) (by decide +kernel) rfl
theorem tw_481 : ((.methodLink "BundlesOfBidsLaw" (45 : Nat) ({ cls := "BundlesOfBids", name := "bid", desc := "(II)I" } : MethodName)) : Cond) ∈ tbl := tb_3 (i := 1) (by decide +kernel) rfl
theorem tw_482 : ((.instanceMethod ({ cls := "BundlesOfBids", name := "bid", desc := "(II)I" } : MethodName)) : Cond) ∈ tbl := tb_3 (i := 2) (by decide +kernel) rfl
theorem tw_483 : ((.selects "BundlesOfBids" ({ cls := "BundlesOfBids", name := "bid", desc := "(II)I" } : MethodName) ({ cls := "BundlesOfBids", name := "bid", desc := "(II)I" } : MethodName)) : Cond) ∈ tbl := tb_3 (i := 3) (by decide +kernel) rfl
theorem tw_484 : ((.code ({ cls := "BundlesOfBids", name := "bid", desc := "(II)I" } : MethodName) prog_1_method_9_code (3 : Nat) (some FieldType.int)) : Cond) ∈ tbl := tb_3 (i := 4) (by decide +kernel) rfl
theorem tn_485 : ((.methodLinkNest "BundlesOfBids" (144 : Nat) ({ cls := "BundlesOfBids$Sale", name := "bidderOf", desc := "(I)I" } : MethodName) "BundlesOfBids") : Cond) ∈ tbn := tn__3 (i := 5) (by decide +kernel) rfl
theorem tw_487 : ((.instanceMethod ({ cls := "BundlesOfBids$Sale", name := "bidderOf", desc := "(I)I" } : MethodName)) : Cond) ∈ tbl := tb_3 (i := 7) (by decide +kernel) rfl
theorem tw_488 : ((.code ({ cls := "BundlesOfBids$Sale", name := "bidderOf", desc := "(I)I" } : MethodName) prog_5_method_5_code (2 : Nat) (some FieldType.int)) : Cond) ∈ tbl := tb_3 (i := 8) (by decide +kernel) rfl
theorem tn_489 : ((.methodLinkNest "BundlesOfBids" (147 : Nat) ({ cls := "BundlesOfBids$Sale", name := "setOf", desc := "(I)I" } : MethodName) "BundlesOfBids") : Cond) ∈ tbn := tn__3 (i := 9) (by decide +kernel) rfl
theorem tw_491 : ((.instanceMethod ({ cls := "BundlesOfBids$Sale", name := "setOf", desc := "(I)I" } : MethodName)) : Cond) ∈ tbl := tb_3 (i := 11) (by decide +kernel) rfl
theorem tw_492 : ((.code ({ cls := "BundlesOfBids$Sale", name := "setOf", desc := "(I)I" } : MethodName) prog_5_method_6_code (2 : Nat) (some FieldType.int)) : Cond) ∈ tbl := tb_3 (i := 12) (by decide +kernel) rfl
theorem tw_493 : ((.methodLink "BundlesOfBids" (150 : Nat) ({ cls := "BundlesOfBids", name := "winnersOf", desc := "(LBundlesOfBids$Sale;)I" } : MethodName)) : Cond) ∈ tbl := tb_3 (i := 13) (by decide +kernel) rfl
theorem tw_495 : ((.instanceMethod ({ cls := "BundlesOfBids", name := "winnersOf", desc := "(LBundlesOfBids$Sale;)I" } : MethodName)) : Cond) ∈ tbl := tb_3 (i := 15) (by decide +kernel) rfl
theorem tw_496 : ((.code ({ cls := "BundlesOfBids", name := "winnersOf", desc := "(LBundlesOfBids$Sale;)I" } : MethodName) prog_1_method_47_code (2 : Nat) (some FieldType.int)) : Cond) ∈ tbl := tb_3 (i := 16) (by decide +kernel) rfl
theorem tn_497 : ((.methodLinkNest "BundlesOfBids" (181 : Nat) ({ cls := "BundlesOfBids$Outcomes", name := "gather", desc := "(LBundlesOfBids$Sale;)V" } : MethodName) "BundlesOfBids") : Cond) ∈ tbn := tn__3 (i := 17) (by decide +kernel) rfl
theorem tw_499 : ((.instanceMethod ({ cls := "BundlesOfBids$Outcomes", name := "gather", desc := "(LBundlesOfBids$Sale;)V" } : MethodName)) : Cond) ∈ tbl := tb_3 (i := 19) (by decide +kernel) rfl
theorem tw_500 : ((.code ({ cls := "BundlesOfBids$Outcomes", name := "gather", desc := "(LBundlesOfBids$Sale;)V" } : MethodName) prog_3_method_5_code (3 : Nat) (Option.none : Option FieldType)) : Cond) ∈ tbl := tb_3 (i := 20) (by decide +kernel) rfl
theorem tw_501 : ((.methodLink "BundlesOfBids$Outcomes" (37 : Nat) ({ cls := "BundlesOfBids$Outcomes", name := "gatherPacks", desc := "(LBundlesOfBids$Sale;)V" } : MethodName)) : Cond) ∈ tbl := tb_3 (i := 21) (by decide +kernel) rfl
theorem tw_503 : ((.instanceMethod ({ cls := "BundlesOfBids$Outcomes", name := "gatherPacks", desc := "(LBundlesOfBids$Sale;)V" } : MethodName)) : Cond) ∈ tbl := tb_3 (i := 23) (by decide +kernel) rfl
theorem tw_504 : ((.code ({ cls := "BundlesOfBids$Outcomes", name := "gatherPacks", desc := "(LBundlesOfBids$Sale;)V" } : MethodName) prog_3_method_6_code (7 : Nat) (Option.none : Option FieldType)) : Cond) ∈ tbl := tb_3 (i := 24) (by decide +kernel) rfl
theorem tn_505 : ((.methodLinkNest "BundlesOfBids$Outcomes" (51 : Nat) ({ cls := "BundlesOfBids$Sale", name := "reservesBut", desc := "(I)I" } : MethodName) "BundlesOfBids") : Cond) ∈ tbn := tn__3 (i := 25) (by decide +kernel) rfl
theorem tw_507 : ((.instanceMethod ({ cls := "BundlesOfBids$Sale", name := "reservesBut", desc := "(I)I" } : MethodName)) : Cond) ∈ tbl := tb_3 (i := 27) (by decide +kernel) rfl
theorem tw_508 : ((.code ({ cls := "BundlesOfBids$Sale", name := "reservesBut", desc := "(I)I" } : MethodName) prog_5_method_20_code (4 : Nat) (some FieldType.int)) : Cond) ∈ tbl := tb_3 (i := 28) (by decide +kernel) rfl
theorem tn_509 : ((.methodLinkNest "BundlesOfBids$Sale" (60 : Nat) ({ cls := "BundlesOfBids", name := "bitAt", desc := "(II)I" } : MethodName) "BundlesOfBids") : Cond) ∈ tbn := tn__3 (i := 29) (by decide +kernel) rfl
theorem tw_510 : ((.methodLink "BundlesOfBids$Outcomes" (54 : Nat) ({ cls := "BundlesOfBids$Outcomes", name := "addPack", desc := "(III)V" } : MethodName)) : Cond) ∈ tbl := tb_3 (i := 30) (by decide +kernel) rfl
theorem tw_512 : ((.instanceMethod ({ cls := "BundlesOfBids$Outcomes", name := "addPack", desc := "(III)V" } : MethodName)) : Cond) ∈ tbl := tb_3 (i := 32) (by decide +kernel) rfl
theorem tw_513 : ((.code ({ cls := "BundlesOfBids$Outcomes", name := "addPack", desc := "(III)V" } : MethodName) prog_3_method_7_code (4 : Nat) (Option.none : Option FieldType)) : Cond) ∈ tbl := tb_3 (i := 33) (by decide +kernel) rfl
theorem tn_514 : ((.methodLinkNest "BundlesOfBids$Outcomes" (64 : Nat) ({ cls := "BundlesOfBids", name := "bitAt", desc := "(II)I" } : MethodName) "BundlesOfBids") : Cond) ∈ tbn := tn__3 (i := 34) (by decide +kernel) rfl
theorem tn_515 : ((.methodLinkNest "BundlesOfBids$Outcomes" (67 : Nat) ({ cls := "BundlesOfBids$Sale", name := "setOf", desc := "(I)I" } : MethodName) "BundlesOfBids") : Cond) ∈ tbn := tn__3 (i := 35) (by decide +kernel) rfl
theorem tn_516 : ((.methodLinkNest "BundlesOfBids$Outcomes" (70 : Nat) ({ cls := "BundlesOfBids$Sale", name := "priceOf", desc := "(I)I" } : MethodName) "BundlesOfBids") : Cond) ∈ tbn := tn__3 (i := 36) (by decide +kernel) rfl
theorem tn_517 : ((.methodLinkNest "BundlesOfBids$Outcomes" (41 : Nat) ({ cls := "BundlesOfBids$Sale", name := "allows", desc := "(I)Z" } : MethodName) "BundlesOfBids") : Cond) ∈ tbn := tn__3 (i := 37) (by decide +kernel) rfl
theorem tw_519 : ((.instanceMethod ({ cls := "BundlesOfBids$Sale", name := "allows", desc := "(I)Z" } : MethodName)) : Cond) ∈ tbl := tb_3 (i := 39) (by decide +kernel) rfl
theorem tw_520 : ((.code ({ cls := "BundlesOfBids$Sale", name := "allows", desc := "(I)Z" } : MethodName) prog_5_method_21_code (3 : Nat) (Option.some FieldType.boolean)) : Cond) ∈ tbl := tb_3 (i := 40) (by decide +kernel) rfl
theorem tw_521 : ((.methodLink "BundlesOfBids$Sale" (64 : Nat) ({ cls := "BundlesOfBids$Sale", name := "mayWin", desc := "(III)Z" } : MethodName)) : Cond) ∈ tbl := tb_3 (i := 41) (by decide +kernel) rfl
theorem tw_523 : ((.instanceMethod ({ cls := "BundlesOfBids$Sale", name := "mayWin", desc := "(III)Z" } : MethodName)) : Cond) ∈ tbl := tb_3 (i := 43) (by decide +kernel) rfl
theorem tw_524 : ((.code ({ cls := "BundlesOfBids$Sale", name := "mayWin", desc := "(III)Z" } : MethodName) prog_5_method_22_code (5 : Nat) (Option.some FieldType.boolean)) : Cond) ∈ tbl := tb_3 (i := 44) (by decide +kernel) rfl
theorem tw_525 : ((.methodLink "BundlesOfBids$Sale" (68 : Nat) ({ cls := "java/lang/Integer", name := "bitCount", desc := "(I)I" } : MethodName)) : Cond) ∈ tbl := tb_3 (i := 45) (by decide +kernel) rfl
theorem tw_526 : ((.static ({ cls := "java/lang/Integer", name := "bitCount", desc := "(I)I" } : MethodName)) : Cond) ∈ tbl := tb_3 (i := 46) (by decide +kernel) rfl
theorem tw_527 : ((.code ({ cls := "java/lang/Integer", name := "bitCount", desc := "(I)I" } : MethodName) prog_12_method_49_code (1 : Nat) (some FieldType.int)) : Cond) ∈ tbl := tb_3 (i := 47) (by decide +kernel) rfl
theorem tw_528 : ((.constant "java/lang/Integer" (265 : Nat) (1431655765 : Int32)) : Cond) ∈ tbl := tb_3 (i := 48) (by decide +kernel) rfl
theorem tw_529 : ((.constant "java/lang/Integer" (266 : Nat) (858993459 : Int32)) : Cond) ∈ tbl := tb_3 (i := 49) (by decide +kernel) rfl
theorem tw_530 : ((.constant "java/lang/Integer" (267 : Nat) (252645135 : Int32)) : Cond) ∈ tbl := tb_3 (i := 50) (by decide +kernel) rfl
theorem tw_531 : ((.methodLink "BundlesOfBids$Sale" (74 : Nat) ({ cls := "BundlesOfBids$Sale", name := "pricesOf", desc := "(I)I" } : MethodName)) : Cond) ∈ tbl := tb_3 (i := 51) (by decide +kernel) rfl
theorem tw_533 : ((.instanceMethod ({ cls := "BundlesOfBids$Sale", name := "pricesOf", desc := "(I)I" } : MethodName)) : Cond) ∈ tbl := tb_3 (i := 53) (by decide +kernel) rfl
theorem tw_534 : ((.code ({ cls := "BundlesOfBids$Sale", name := "pricesOf", desc := "(I)I" } : MethodName) prog_5_method_17_code (4 : Nat) (some FieldType.int)) : Cond) ∈ tbl := tb_3 (i := 54) (by decide +kernel) rfl
theorem tw_535 : ((.methodLink "BundlesOfBids$Sale" (77 : Nat) ({ cls := "BundlesOfBids$Sale", name := "itemsOf", desc := "(I)I" } : MethodName)) : Cond) ∈ tbl := tb_3 (i := 55) (by decide +kernel) rfl
theorem tw_537 : ((.instanceMethod ({ cls := "BundlesOfBids$Sale", name := "itemsOf", desc := "(I)I" } : MethodName)) : Cond) ∈ tbl := tb_3 (i := 57) (by decide +kernel) rfl
theorem tw_538 : ((.code ({ cls := "BundlesOfBids$Sale", name := "itemsOf", desc := "(I)I" } : MethodName) prog_5_method_18_code (4 : Nat) (some FieldType.int)) : Cond) ∈ tbl := tb_3 (i := 58) (by decide +kernel) rfl
theorem tw_539 : ((.methodLink "BundlesOfBids$Outcomes" (47 : Nat) ({ cls := "BundlesOfBids$Outcomes", name := "keyOf", desc := "(II)I" } : MethodName)) : Cond) ∈ tbl := tb_3 (i := 59) (by decide +kernel) rfl
theorem tw_540 : ((.static ({ cls := "BundlesOfBids$Outcomes", name := "keyOf", desc := "(II)I" } : MethodName)) : Cond) ∈ tbl := tb_3 (i := 60) (by decide +kernel) rfl
theorem tw_541 : ((.code ({ cls := "BundlesOfBids$Outcomes", name := "keyOf", desc := "(II)I" } : MethodName) prog_3_method_4_code (2 : Nat) (some FieldType.int)) : Cond) ∈ tbl := tb_3 (i := 61) (by decide +kernel) rfl
theorem tw_542 : ((.methodLink "BundlesOfBids$Outcomes" (31 : Nat) ({ cls := "java/lang/Integer", name := "bitCount", desc := "(I)I" } : MethodName)) : Cond) ∈ tbl := tb_3 (i := 62) (by decide +kernel) rfl
theorem tn_543 : ((.methodLinkNest "BundlesOfBids" (230 : Nat) ({ cls := "BundlesOfBids$Outcomes", name := "first", desc := "(I)I" } : MethodName) "BundlesOfBids") : Cond) ∈ tbn := tn__3 (i := 63) (by decide +kernel) rfl
theorem tw_545 : ((.instanceMethod ({ cls := "BundlesOfBids$Outcomes", name := "first", desc := "(I)I" } : MethodName)) : Cond) ∈ tbl := tb_3 (i := 65) (by decide +kernel) rfl
theorem tw_546 : ((.code ({ cls := "BundlesOfBids$Outcomes", name := "first", desc := "(I)I" } : MethodName) prog_3_method_10_code (5 : Nat) (some FieldType.int)) : Cond) ∈ tbl := tb_3 (i := 66) (by decide +kernel) rfl
theorem tw_547 : ((.constant "BundlesOfBids$Outcomes" (73 : Nat) (2147483647 : Int32)) : Cond) ∈ tbl := tb_3 (i := 67) (by decide +kernel) rfl
theorem tw_548 : ((.methodLink "BundlesOfBids$Outcomes" (74 : Nat) ({ cls := "BundlesOfBids$Outcomes", name := "keyAt", desc := "(I)I" } : MethodName)) : Cond) ∈ tbl := tb_3 (i := 68) (by decide +kernel) rfl
theorem tw_550 : ((.instanceMethod ({ cls := "BundlesOfBids$Outcomes", name := "keyAt", desc := "(I)I" } : MethodName)) : Cond) ∈ tbl := tb_3 (i := 70) (by decide +kernel) rfl
theorem tw_551 : ((.code ({ cls := "BundlesOfBids$Outcomes", name := "keyAt", desc := "(I)I" } : MethodName) prog_3_method_8_code (2 : Nat) (some FieldType.int)) : Cond) ∈ tbl := tb_3 (i := 71) (by decide +kernel) rfl
theorem tw_552 : ((.methodLink "BundlesOfBids$Outcomes" (77 : Nat) ({ cls := "BundlesOfBids$Outcomes", name := "bidsIn", desc := "(I)I" } : MethodName)) : Cond) ∈ tbl := tb_3 (i := 72) (by decide +kernel) rfl
theorem tw_553 : ((.static ({ cls := "BundlesOfBids$Outcomes", name := "bidsIn", desc := "(I)I" } : MethodName)) : Cond) ∈ tbl := tb_3 (i := 73) (by decide +kernel) rfl
theorem tw_554 : ((.code ({ cls := "BundlesOfBids$Outcomes", name := "bidsIn", desc := "(I)I" } : MethodName) prog_3_method_2_code (1 : Nat) (some FieldType.int)) : Cond) ∈ tbl := tb_3 (i := 74) (by decide +kernel) rfl
theorem tn_555 : ((.methodLinkNest "BundlesOfBids" (259 : Nat) ({ cls := "BundlesOfBids$Outcomes", name := "bidsIn", desc := "(I)I" } : MethodName) "BundlesOfBids") : Cond) ∈ tbn := tn__3 (i := 75) (by decide +kernel) rfl
theorem tn_556 : ((.methodLinkNest "BundlesOfBids" (154 : Nat) ({ cls := "BundlesOfBids$Search", name := "lineUp", desc := "(LBundlesOfBids$Sale;)V" } : MethodName) "BundlesOfBids") : Cond) ∈ tbn := tn__3 (i := 76) (by decide +kernel) rfl
theorem tw_558 : ((.instanceMethod ({ cls := "BundlesOfBids$Search", name := "lineUp", desc := "(LBundlesOfBids$Sale;)V" } : MethodName)) : Cond) ∈ tbl := tb_3 (i := 78) (by decide +kernel) rfl
theorem tw_559 : ((.code ({ cls := "BundlesOfBids$Search", name := "lineUp", desc := "(LBundlesOfBids$Sale;)V" } : MethodName) prog_7_method_2_code (4 : Nat) (Option.none : Option FieldType)) : Cond) ∈ tbl := tb_3 (i := 79) (by decide +kernel) rfl
theorem tn_560 : ((.methodLinkNest "BundlesOfBids$Search" (33 : Nat) ({ cls := "BundlesOfBids$Sale", name := "setOf", desc := "(I)I" } : MethodName) "BundlesOfBids") : Cond) ∈ tbn := tn__3 (i := 80) (by decide +kernel) rfl
theorem tw_561 : ((.methodLink "BundlesOfBids$Search" (37 : Nat) ({ cls := "java/lang/Integer", name := "bitCount", desc := "(I)I" } : MethodName)) : Cond) ∈ tbl := tb_3 (i := 81) (by decide +kernel) rfl
theorem tn_562 : ((.methodLinkNest "BundlesOfBids$Search" (42 : Nat) ({ cls := "BundlesOfBids$Sale", name := "priceOf", desc := "(I)I" } : MethodName) "BundlesOfBids") : Cond) ∈ tbn := tn__3 (i := 82) (by decide +kernel) rfl
theorem tn_563 : ((.methodLinkNest "BundlesOfBids$Search" (48 : Nat) ({ cls := "BundlesOfBids", name := "bitAt", desc := "(II)I" } : MethodName) "BundlesOfBids") : Cond) ∈ tbn := tn__3 (i := 83) (by decide +kernel) rfl
theorem tw_564 : ((.methodLink "BundlesOfBids$Search" (52 : Nat) ({ cls := "BundlesOfBids$Search", name := "insert", desc := "(I)V" } : MethodName)) : Cond) ∈ tbl := tb_3 (i := 84) (by decide +kernel) rfl
theorem tw_566 : ((.instanceMethod ({ cls := "BundlesOfBids$Search", name := "insert", desc := "(I)V" } : MethodName)) : Cond) ∈ tbl := tb_3 (i := 86) (by decide +kernel) rfl
theorem tw_567 : ((.code ({ cls := "BundlesOfBids$Search", name := "insert", desc := "(I)V" } : MethodName) prog_7_method_3_code (3 : Nat) (Option.none : Option FieldType)) : Cond) ∈ tbl := tb_3 (i := 87) (by decide +kernel) rfl
theorem tw_568 : ((.methodLink "BundlesOfBids$Search" (56 : Nat) ({ cls := "BundlesOfBids$Search", name := "shareOf", desc := "(I)I" } : MethodName)) : Cond) ∈ tbl := tb_3 (i := 88) (by decide +kernel) rfl
theorem tw_570 : ((.instanceMethod ({ cls := "BundlesOfBids$Search", name := "shareOf", desc := "(I)I" } : MethodName)) : Cond) ∈ tbl := tb_3 (i := 90) (by decide +kernel) rfl
theorem tw_571 : ((.code ({ cls := "BundlesOfBids$Search", name := "shareOf", desc := "(I)I" } : MethodName) prog_7_method_5_code (2 : Nat) (some FieldType.int)) : Cond) ∈ tbl := tb_3 (i := 91) (by decide +kernel) rfl
theorem tn_572 : ((.methodLinkNest "BundlesOfBids" (158 : Nat) ({ cls := "BundlesOfBids$Search", name := "placeOf", desc := "(I)I" } : MethodName) "BundlesOfBids") : Cond) ∈ tbn := tn__3 (i := 92) (by decide +kernel) rfl
theorem tw_574 : ((.instanceMethod ({ cls := "BundlesOfBids$Search", name := "placeOf", desc := "(I)I" } : MethodName)) : Cond) ∈ tbl := tb_3 (i := 94) (by decide +kernel) rfl
theorem tw_575 : ((.code ({ cls := "BundlesOfBids$Search", name := "placeOf", desc := "(I)I" } : MethodName) prog_7_method_6_code (3 : Nat) (some FieldType.int)) : Cond) ∈ tbl := tb_3 (i := 95) (by decide +kernel) rfl
theorem tw_576 : ((.methodLink "BundlesOfBids$Search" (59 : Nat) ({ cls := "BundlesOfBids$Search", name := "bidAt", desc := "(I)I" } : MethodName)) : Cond) ∈ tbl := tb_3 (i := 96) (by decide +kernel) rfl
theorem tw_578 : ((.instanceMethod ({ cls := "BundlesOfBids$Search", name := "bidAt", desc := "(I)I" } : MethodName)) : Cond) ∈ tbl := tb_3 (i := 98) (by decide +kernel) rfl
theorem tw_579 : ((.code ({ cls := "BundlesOfBids$Search", name := "bidAt", desc := "(I)I" } : MethodName) prog_7_method_4_code (2 : Nat) (some FieldType.int)) : Cond) ∈ tbl := tb_3 (i := 99) (by decide +kernel) rfl
theorem tw_580 : ((.methodLink "BundlesOfBidsLaw" (49 : Nat) ({ cls := "BundlesOfBids", name := "bidder", desc := "(II)I" } : MethodName)) : Cond) ∈ tbl := tb_3 (i := 100) (by decide +kernel) rfl
theorem tw_581 : ((.instanceMethod ({ cls := "BundlesOfBids", name := "bidder", desc := "(II)I" } : MethodName)) : Cond) ∈ tbl := tb_3 (i := 101) (by decide +kernel) rfl
theorem tw_582 : ((.selects "BundlesOfBids" ({ cls := "BundlesOfBids", name := "bidder", desc := "(II)I" } : MethodName) ({ cls := "BundlesOfBids", name := "bidder", desc := "(II)I" } : MethodName)) : Cond) ∈ tbl := tb_3 (i := 102) (by decide +kernel) rfl
theorem tw_583 : ((.code ({ cls := "BundlesOfBids", name := "bidder", desc := "(II)I" } : MethodName) prog_1_method_10_code (3 : Nat) (some FieldType.int)) : Cond) ∈ tbl := tb_3 (i := 103) (by decide +kernel) rfl
theorem tn_584 : ((.methodLinkNest "BundlesOfBids" (161 : Nat) ({ cls := "BundlesOfBids$Sale", name := "bidsOfGroup", desc := "(I)I" } : MethodName) "BundlesOfBids") : Cond) ∈ tbn := tn__3 (i := 104) (by decide +kernel) rfl
theorem tw_586 : ((.instanceMethod ({ cls := "BundlesOfBids$Sale", name := "bidsOfGroup", desc := "(I)I" } : MethodName)) : Cond) ∈ tbl := tb_3 (i := 106) (by decide +kernel) rfl
theorem tw_587 : ((.code ({ cls := "BundlesOfBids$Sale", name := "bidsOfGroup", desc := "(I)I" } : MethodName) prog_5_method_16_code (4 : Nat) (some FieldType.int)) : Cond) ∈ tbl := tb_3 (i := 107) (by decide +kernel) rfl
theorem tw_588 : ((.methodLink "BundlesOfBids" (164 : Nat) ({ cls := "BundlesOfBids", name := "charge", desc := "(LBundlesOfBids$Sale;)V" } : MethodName)) : Cond) ∈ tbl := tb_3 (i := 108) (by decide +kernel) rfl
theorem tw_590 : ((.instanceMethod ({ cls := "BundlesOfBids", name := "charge", desc := "(LBundlesOfBids$Sale;)V" } : MethodName)) : Cond) ∈ tbl := tb_3 (i := 110) (by decide +kernel) rfl
theorem tw_591 : ((.code ({ cls := "BundlesOfBids", name := "charge", desc := "(LBundlesOfBids$Sale;)V" } : MethodName) prog_1_method_49_code (2 : Nat) (Option.none : Option FieldType)) : Cond) ∈ tbl := tb_3 (i := 111) (by decide +kernel) rfl
theorem tn_592 : ((.methodLinkNest "BundlesOfBids" (322 : Nat) ({ cls := "BundlesOfBids$Bill", name := "charge", desc := "(LBundlesOfBids$Sale;LBundlesOfBids$Outcomes;)V" } : MethodName) "BundlesOfBids") : Cond) ∈ tbn := tn__3 (i := 112) (by decide +kernel) rfl
theorem tw_594 : ((.instanceMethod ({ cls := "BundlesOfBids$Bill", name := "charge", desc := "(LBundlesOfBids$Sale;LBundlesOfBids$Outcomes;)V" } : MethodName)) : Cond) ∈ tbl := tb_3 (i := 114) (by decide +kernel) rfl
theorem tw_595 : ((.code ({ cls := "BundlesOfBids$Bill", name := "charge", desc := "(LBundlesOfBids$Sale;LBundlesOfBids$Outcomes;)V" } : MethodName) prog_2_method_2_code (5 : Nat) (Option.none : Option FieldType)) : Cond) ∈ tbl := tb_3 (i := 115) (by decide +kernel) rfl
theorem tn_596 : ((.methodLinkNest "BundlesOfBids$Bill" (37 : Nat) ({ cls := "BundlesOfBids$Outcomes", name := "first", desc := "(I)I" } : MethodName) "BundlesOfBids") : Cond) ∈ tbn := tn__3 (i := 116) (by decide +kernel) rfl
theorem tn_597 : ((.methodLinkNest "BundlesOfBids$Bill" (43 : Nat) ({ cls := "BundlesOfBids$Outcomes", name := "bidsIn", desc := "(I)I" } : MethodName) "BundlesOfBids") : Cond) ∈ tbn := tn__3 (i := 117) (by decide +kernel) rfl
theorem tn_598 : ((.methodLinkNest "BundlesOfBids$Bill" (46 : Nat) ({ cls := "BundlesOfBids$Outcomes", name := "worthIn", desc := "(I)I" } : MethodName) "BundlesOfBids") : Cond) ∈ tbn := tn__3 (i := 118) (by decide +kernel) rfl
theorem tw_599 : ((.static ({ cls := "BundlesOfBids$Outcomes", name := "worthIn", desc := "(I)I" } : MethodName)) : Cond) ∈ tbl := tb_3 (i := 119) (by decide +kernel) rfl
theorem tw_600 : ((.code ({ cls := "BundlesOfBids$Outcomes", name := "worthIn", desc := "(I)I" } : MethodName) prog_3_method_3_code (1 : Nat) (some FieldType.int)) : Cond) ∈ tbl := tb_3 (i := 120) (by decide +kernel) rfl
theorem tn_601 : ((.methodLinkNest "BundlesOfBids$Bill" (49 : Nat) ({ cls := "BundlesOfBids$Sale", name := "bidsOfGroup", desc := "(I)I" } : MethodName) "BundlesOfBids") : Cond) ∈ tbn := tn__3 (i := 121) (by decide +kernel) rfl
theorem tn_602 : ((.methodLinkNest "BundlesOfBids$Bill" (54 : Nat) ({ cls := "BundlesOfBids$Sale", name := "pricesOf", desc := "(I)I" } : MethodName) "BundlesOfBids") : Cond) ∈ tbn := tn__3 (i := 122) (by decide +kernel) rfl
theorem tw_603 : ((.methodLink "BundlesOfBids$Bill" (57 : Nat) ({ cls := "BundlesOfBids$Bill", name := "harmBy", desc := "(LBundlesOfBids$Sale;LBundlesOfBids$Outcomes;I)I" } : MethodName)) : Cond) ∈ tbl := tb_3 (i := 123) (by decide +kernel) rfl
theorem tw_605 : ((.instanceMethod ({ cls := "BundlesOfBids$Bill", name := "harmBy", desc := "(LBundlesOfBids$Sale;LBundlesOfBids$Outcomes;I)I" } : MethodName)) : Cond) ∈ tbl := tb_3 (i := 125) (by decide +kernel) rfl
theorem tw_606 : ((.code ({ cls := "BundlesOfBids$Bill", name := "harmBy", desc := "(LBundlesOfBids$Sale;LBundlesOfBids$Outcomes;I)I" } : MethodName) prog_2_method_3_code (5 : Nat) (some FieldType.int)) : Cond) ∈ tbl := tb_3 (i := 126) (by decide +kernel) rfl
theorem tw_607 : ((.methodLink "BundlesOfBids$Bill" (61 : Nat) ({ cls := "BundlesOfBids$Bill", name := "total", desc := "([II)I" } : MethodName)) : Cond) ∈ tbl := tb_3 (i := 127) (by decide +kernel) rfl
theorem tw_608 : ((.static ({ cls := "BundlesOfBids$Bill", name := "total", desc := "([II)I" } : MethodName)) : Cond) ∈ tbl := tb_3 (i := 128) (by decide +kernel) rfl
theorem tw_609 : ((.code ({ cls := "BundlesOfBids$Bill", name := "total", desc := "([II)I" } : MethodName) prog_2_method_7_code (4 : Nat) (some FieldType.int)) : Cond) ∈ tbl := tb_3 (i := 129) (by decide +kernel) rfl
theorem tn_610 : ((.methodLinkNest "BundlesOfBids$Bill" (73 : Nat) ({ cls := "BundlesOfBids", name := "bitAt", desc := "(II)I" } : MethodName) "BundlesOfBids") : Cond) ∈ tbn := tn__3 (i := 130) (by decide +kernel) rfl
theorem tn_611 : ((.methodLinkNest "BundlesOfBids" (170 : Nat) ({ cls := "BundlesOfBids$Bill", name := "total", desc := "([II)I" } : MethodName) "BundlesOfBids") : Cond) ∈ tbn := tn__3 (i := 131) (by decide +kernel) rfl
theorem tn_612 : ((.methodLinkNest "BundlesOfBids" (174 : Nat) ({ cls := "BundlesOfBids$Bill", name := "harmBy", desc := "(LBundlesOfBids$Sale;LBundlesOfBids$Outcomes;I)I" } : MethodName) "BundlesOfBids") : Cond) ∈ tbn := tn__3 (i := 132) (by decide +kernel) rfl
theorem tw_613 : ((.methodLink "BundlesOfBidsLaw" (53 : Nat) ({ cls := "BundlesOfBids", name := "may", desc := "(I)I" } : MethodName)) : Cond) ∈ tbl := tb_3 (i := 133) (by decide +kernel) rfl
theorem tw_614 : ((.instanceMethod ({ cls := "BundlesOfBids", name := "may", desc := "(I)I" } : MethodName)) : Cond) ∈ tbl := tb_3 (i := 134) (by decide +kernel) rfl
theorem tw_615 : ((.selects "BundlesOfBids" ({ cls := "BundlesOfBids", name := "may", desc := "(I)I" } : MethodName) ({ cls := "BundlesOfBids", name := "may", desc := "(I)I" } : MethodName)) : Cond) ∈ tbl := tb_3 (i := 135) (by decide +kernel) rfl
theorem tw_616 : ((.code ({ cls := "BundlesOfBids", name := "may", desc := "(I)I" } : MethodName) prog_1_method_11_code (2 : Nat) (some FieldType.int)) : Cond) ∈ tbl := tb_3 (i := 136) (by decide +kernel) rfl
theorem tw_617 : ((.methodLink "BundlesOfBids" (178 : Nat) ({ cls := "BundlesOfBids", name := "areBids", desc := "(I)Z" } : MethodName)) : Cond) ∈ tbl := tb_3 (i := 137) (by decide +kernel) rfl
theorem tw_619 : ((.instanceMethod ({ cls := "BundlesOfBids", name := "areBids", desc := "(I)Z" } : MethodName)) : Cond) ∈ tbl := tb_3 (i := 139) (by decide +kernel) rfl
theorem tw_620 : ((.code ({ cls := "BundlesOfBids", name := "areBids", desc := "(I)Z" } : MethodName) prog_1_method_43_code (2 : Nat) (Option.some FieldType.boolean)) : Cond) ∈ tbl := tb_3 (i := 140) (by decide +kernel) rfl
theorem tn_621 : ((.methodLinkNest "BundlesOfBids" (184 : Nat) ({ cls := "BundlesOfBids$Outcomes", name := "has", desc := "(I)Z" } : MethodName) "BundlesOfBids") : Cond) ∈ tbn := tn__3 (i := 141) (by decide +kernel) rfl
theorem tw_623 : ((.instanceMethod ({ cls := "BundlesOfBids$Outcomes", name := "has", desc := "(I)Z" } : MethodName)) : Cond) ∈ tbl := tb_3 (i := 143) (by decide +kernel) rfl
theorem tw_624 : ((.code ({ cls := "BundlesOfBids$Outcomes", name := "has", desc := "(I)Z" } : MethodName) prog_3_method_9_code (3 : Nat) (Option.some FieldType.boolean)) : Cond) ∈ tbl := tb_3 (i := 144) (by decide +kernel) rfl
theorem tw_625 : ((.methodLink "BundlesOfBidsLaw" (57 : Nat) ({ cls := "BundlesOfBids", name := "winners", desc := "(I)I" } : MethodName)) : Cond) ∈ tbl := tb_3 (i := 145) (by decide +kernel) rfl
theorem tw_626 : ((.instanceMethod ({ cls := "BundlesOfBids", name := "winners", desc := "(I)I" } : MethodName)) : Cond) ∈ tbl := tb_3 (i := 146) (by decide +kernel) rfl
theorem tw_627 : ((.selects "BundlesOfBids" ({ cls := "BundlesOfBids", name := "winners", desc := "(I)I" } : MethodName) ({ cls := "BundlesOfBids", name := "winners", desc := "(I)I" } : MethodName)) : Cond) ∈ tbl := tb_3 (i := 147) (by decide +kernel) rfl
theorem tw_628 : ((.code ({ cls := "BundlesOfBids", name := "winners", desc := "(I)I" } : MethodName) prog_1_method_12_code (2 : Nat) (some FieldType.int)) : Cond) ∈ tbl := tb_3 (i := 148) (by decide +kernel) rfl
theorem tw_629 : ((.methodLink "BundlesOfBids" (187 : Nat) ({ cls := "BundlesOfBids", name := "worthOf", desc := "(LBundlesOfBids$Sale;)I" } : MethodName)) : Cond) ∈ tbl := tb_3 (i := 149) (by decide +kernel) rfl
theorem tw_631 : ((.instanceMethod ({ cls := "BundlesOfBids", name := "worthOf", desc := "(LBundlesOfBids$Sale;)I" } : MethodName)) : Cond) ∈ tbl := tb_3 (i := 151) (by decide +kernel) rfl
theorem tw_632 : ((.code ({ cls := "BundlesOfBids", name := "worthOf", desc := "(LBundlesOfBids$Sale;)I" } : MethodName) prog_1_method_48_code (2 : Nat) (some FieldType.int)) : Cond) ∈ tbl := tb_3 (i := 152) (by decide +kernel) rfl
theorem tn_633 : ((.methodLinkNest "BundlesOfBids" (256 : Nat) ({ cls := "BundlesOfBids$Outcomes", name := "worthIn", desc := "(I)I" } : MethodName) "BundlesOfBids") : Cond) ∈ tbn := tn__3 (i := 153) (by decide +kernel) rfl
theorem tn_634 : ((.methodLinkNest "BundlesOfBids" (190 : Nat) ({ cls := "BundlesOfBids$Sale", name := "itemsOf", desc := "(I)I" } : MethodName) "BundlesOfBids") : Cond) ∈ tbn := tn__3 (i := 154) (by decide +kernel) rfl
theorem tn_635 : ((.methodLinkNest "BundlesOfBids" (193 : Nat) ({ cls := "BundlesOfBids$Search", name := "branchesOf", desc := "(LBundlesOfBids$Sale;)I" } : MethodName) "BundlesOfBids") : Cond) ∈ tbn := tn__3 (i := 155) (by decide +kernel) rfl
theorem tw_637 : ((.instanceMethod ({ cls := "BundlesOfBids$Search", name := "branchesOf", desc := "(LBundlesOfBids$Sale;)I" } : MethodName)) : Cond) ∈ tbl := tb_3 (i := 157) (by decide +kernel) rfl
theorem tw_638 : ((.code ({ cls := "BundlesOfBids$Search", name := "branchesOf", desc := "(LBundlesOfBids$Sale;)I" } : MethodName) prog_7_method_7_code (2 : Nat) (some FieldType.int)) : Cond) ∈ tbl := tb_3 (i := 158) (by decide +kernel) rfl
theorem tw_639 : ((.methodLink "BundlesOfBids$Search" (62 : Nat) ({ cls := "BundlesOfBids$Search", name := "lineUp", desc := "(LBundlesOfBids$Sale;)V" } : MethodName)) : Cond) ∈ tbl := tb_3 (i := 159) (by decide +kernel) rfl
theorem tw_640 : ((.methodLink "BundlesOfBids$Search" (66 : Nat) ({ cls := "BundlesOfBids$Search", name := "look", desc := "(LBundlesOfBids$Search;LBundlesOfBids$Sale;II)V" } : MethodName)) : Cond) ∈ tbl := tb_3 (i := 160) (by decide +kernel) rfl
theorem tw_641 : ((.static ({ cls := "BundlesOfBids$Search", name := "look", desc := "(LBundlesOfBids$Search;LBundlesOfBids$Sale;II)V" } : MethodName)) : Cond) ∈ tbl := tb_3 (i := 161) (by decide +kernel) rfl
theorem tw_642 : ((.code ({ cls := "BundlesOfBids$Search", name := "look", desc := "(LBundlesOfBids$Search;LBundlesOfBids$Sale;II)V" } : MethodName) prog_7_method_8_code (5 : Nat) (Option.none : Option FieldType)) : Cond) ∈ tbl := tb_3 (i := 162) (by decide +kernel) rfl
theorem tw_643 : ((.methodLink "BundlesOfBids$Search" (70 : Nat) ({ cls := "BundlesOfBids$Search", name := "bound", desc := "(LBundlesOfBids$Sale;II)I" } : MethodName)) : Cond) ∈ tbl := tb_3 (i := 163) (by decide +kernel) rfl
theorem tw_645 : ((.instanceMethod ({ cls := "BundlesOfBids$Search", name := "bound", desc := "(LBundlesOfBids$Sale;II)I" } : MethodName)) : Cond) ∈ tbl := tb_3 (i := 165) (by decide +kernel) rfl
theorem tw_646 : ((.code ({ cls := "BundlesOfBids$Search", name := "bound", desc := "(LBundlesOfBids$Sale;II)I" } : MethodName) prog_7_method_10_code (7 : Nat) (some FieldType.int)) : Cond) ∈ tbl := tb_3 (i := 166) (by decide +kernel) rfl
theorem tn_647 : ((.methodLinkNest "BundlesOfBids$Search" (78 : Nat) ({ cls := "BundlesOfBids$Sale", name := "itemsOf", desc := "(I)I" } : MethodName) "BundlesOfBids") : Cond) ∈ tbn := tn__3 (i := 167) (by decide +kernel) rfl
theorem tn_648 : ((.methodLinkNest "BundlesOfBids$Search" (85 : Nat) ({ cls := "BundlesOfBids$Sale", name := "pricesOf", desc := "(I)I" } : MethodName) "BundlesOfBids") : Cond) ∈ tbn := tn__3 (i := 168) (by decide +kernel) rfl
theorem tw_649 : ((.methodLink "BundlesOfBids$Search" (96 : Nat) ({ cls := "BundlesOfBids$Search", name := "mostFor", desc := "(LBundlesOfBids$Sale;II)I" } : MethodName)) : Cond) ∈ tbl := tb_3 (i := 169) (by decide +kernel) rfl
theorem tw_651 : ((.instanceMethod ({ cls := "BundlesOfBids$Search", name := "mostFor", desc := "(LBundlesOfBids$Sale;II)I" } : MethodName)) : Cond) ∈ tbl := tb_3 (i := 171) (by decide +kernel) rfl
theorem tw_652 : ((.code ({ cls := "BundlesOfBids$Search", name := "mostFor", desc := "(LBundlesOfBids$Sale;II)I" } : MethodName) prog_7_method_11_code (7 : Nat) (some FieldType.int)) : Cond) ∈ tbl := tb_3 (i := 172) (by decide +kernel) rfl
theorem tn_653 : ((.methodLinkNest "BundlesOfBids$Search" (99 : Nat) ({ cls := "BundlesOfBids$Sale", name := "reserveOf", desc := "(I)I" } : MethodName) "BundlesOfBids") : Cond) ∈ tbn := tn__3 (i := 173) (by decide +kernel) rfl
theorem tw_654 : ((.methodLink "BundlesOfBids$Search" (91 : Nat) ({ cls := "java/lang/Math", name := "max", desc := "(II)I" } : MethodName)) : Cond) ∈ tbl := tb_3 (i := 174) (by decide +kernel) rfl
theorem tw_655 : ((.static ({ cls := "java/lang/Math", name := "max", desc := "(II)I" } : MethodName)) : Cond) ∈ tbl := tb_3 (i := 175) (by decide +kernel) rfl
theorem tw_656 : ((.code ({ cls := "java/lang/Math", name := "max", desc := "(II)I" } : MethodName) prog_13_method_65_code (2 : Nat) (some FieldType.int)) : Cond) ∈ tbl := tb_3 (i := 176) (by decide +kernel) rfl
theorem tw_657 : ((.methodLink "BundlesOfBids$Search" (74 : Nat) ({ cls := "BundlesOfBids$Search", name := "find", desc := "(LBundlesOfBids$Sale;I)V" } : MethodName)) : Cond) ∈ tbl := tb_3 (i := 177) (by decide +kernel) rfl
theorem tw_659 : ((.instanceMethod ({ cls := "BundlesOfBids$Search", name := "find", desc := "(LBundlesOfBids$Sale;I)V" } : MethodName)) : Cond) ∈ tbl := tb_3 (i := 179) (by decide +kernel) rfl
theorem tw_660 : ((.code ({ cls := "BundlesOfBids$Search", name := "find", desc := "(LBundlesOfBids$Sale;I)V" } : MethodName) prog_7_method_9_code (4 : Nat) (Option.none : Option FieldType)) : Cond) ∈ tbl := tb_3 (i := 180) (by decide +kernel) rfl
theorem tn_661 : ((.methodLinkNest "BundlesOfBids$Search" (81 : Nat) ({ cls := "BundlesOfBids$Sale", name := "allows", desc := "(I)Z" } : MethodName) "BundlesOfBids") : Cond) ∈ tbn := tn__3 (i := 181) (by decide +kernel) rfl
theorem tn_662 : ((.methodLinkNest "BundlesOfBids$Search" (88 : Nat) ({ cls := "BundlesOfBids$Sale", name := "reservesBut", desc := "(I)I" } : MethodName) "BundlesOfBids") : Cond) ∈ tbn := tn__3 (i := 182) (by decide +kernel) rfl
theorem tw_663 : ((.methodLink "BundlesOfBidsLaw" (61 : Nat) ({ cls := "BundlesOfBids", name := "rank", desc := "(II)I" } : MethodName)) : Cond) ∈ tbl := tb_3 (i := 183) (by decide +kernel) rfl
theorem tw_664 : ((.instanceMethod ({ cls := "BundlesOfBids", name := "rank", desc := "(II)I" } : MethodName)) : Cond) ∈ tbl := tb_3 (i := 184) (by decide +kernel) rfl
theorem tw_665 : ((.selects "BundlesOfBids" ({ cls := "BundlesOfBids", name := "rank", desc := "(II)I" } : MethodName) ({ cls := "BundlesOfBids", name := "rank", desc := "(II)I" } : MethodName)) : Cond) ∈ tbl := tb_3 (i := 185) (by decide +kernel) rfl
theorem tw_666 : ((.code ({ cls := "BundlesOfBids", name := "rank", desc := "(II)I" } : MethodName) prog_1_method_13_code (3 : Nat) (some FieldType.int)) : Cond) ∈ tbl := tb_3 (i := 186) (by decide +kernel) rfl
theorem tw_667 : ((.methodLink "BundlesOfBids" (196 : Nat) ({ cls := "BundlesOfBids", name := "isEither", desc := "(I)Z" } : MethodName)) : Cond) ∈ tbl := tb_3 (i := 187) (by decide +kernel) rfl
theorem tw_668 : ((.static ({ cls := "BundlesOfBids", name := "isEither", desc := "(I)Z" } : MethodName)) : Cond) ∈ tbl := tb_3 (i := 188) (by decide +kernel) rfl
theorem tw_669 : ((.code ({ cls := "BundlesOfBids", name := "isEither", desc := "(I)Z" } : MethodName) prog_1_method_42_code (1 : Nat) (Option.some FieldType.boolean)) : Cond) ∈ tbl := tb_3 (i := 189) (by decide +kernel) rfl
theorem tn_670 : ((.methodLinkNest "BundlesOfBids" (202 : Nat) ({ cls := "BundlesOfBids$Outcomes", name := "ranked", desc := "(I)I" } : MethodName) "BundlesOfBids") : Cond) ∈ tbn := tn__3 (i := 190) (by decide +kernel) rfl
theorem tw_672 : ((.instanceMethod ({ cls := "BundlesOfBids$Outcomes", name := "ranked", desc := "(I)I" } : MethodName)) : Cond) ∈ tbl := tb_3 (i := 192) (by decide +kernel) rfl
theorem tw_673 : ((.code ({ cls := "BundlesOfBids$Outcomes", name := "ranked", desc := "(I)I" } : MethodName) prog_3_method_11_code (4 : Nat) (some FieldType.int)) : Cond) ∈ tbl := tb_3 (i := 193) (by decide +kernel) rfl
theorem tw_674 : ((.methodLink "BundlesOfBids$Outcomes" (80 : Nat) ({ cls := "BundlesOfBids$Outcomes", name := "nextAbove", desc := "(I)I" } : MethodName)) : Cond) ∈ tbl := tb_3 (i := 194) (by decide +kernel) rfl
theorem tw_676 : ((.instanceMethod ({ cls := "BundlesOfBids$Outcomes", name := "nextAbove", desc := "(I)I" } : MethodName)) : Cond) ∈ tbl := tb_3 (i := 196) (by decide +kernel) rfl
theorem tw_677 : ((.code ({ cls := "BundlesOfBids$Outcomes", name := "nextAbove", desc := "(I)I" } : MethodName) prog_3_method_12_code (5 : Nat) (some FieldType.int)) : Cond) ∈ tbl := tb_3 (i := 197) (by decide +kernel) rfl
theorem tw_678 : ((.methodLink "BundlesOfBids" (205 : Nat) ({ cls := "BundlesOfBids", name := "bidsOrWorth", desc := "(II)I" } : MethodName)) : Cond) ∈ tbl := tb_3 (i := 198) (by decide +kernel) rfl
theorem tw_679 : ((.static ({ cls := "BundlesOfBids", name := "bidsOrWorth", desc := "(II)I" } : MethodName)) : Cond) ∈ tbl := tb_3 (i := 199) (by decide +kernel) rfl
theorem tw_680 : ((.code ({ cls := "BundlesOfBids", name := "bidsOrWorth", desc := "(II)I" } : MethodName) prog_1_method_46_code (2 : Nat) (some FieldType.int)) : Cond) ∈ tbl := tb_3 (i := 200) (by decide +kernel) rfl
theorem tw_681 : ((.methodLink "BundlesOfBidsLaw" (65 : Nat) ({ cls := "BundlesOfBids", name := "item", desc := "(II)I" } : MethodName)) : Cond) ∈ tbl := tb_3 (i := 201) (by decide +kernel) rfl
theorem tw_682 : ((.instanceMethod ({ cls := "BundlesOfBids", name := "item", desc := "(II)I" } : MethodName)) : Cond) ∈ tbl := tb_3 (i := 202) (by decide +kernel) rfl
theorem tw_683 : ((.selects "BundlesOfBids" ({ cls := "BundlesOfBids", name := "item", desc := "(II)I" } : MethodName) ({ cls := "BundlesOfBids", name := "item", desc := "(II)I" } : MethodName)) : Cond) ∈ tbl := tb_3 (i := 203) (by decide +kernel) rfl
theorem tw_684 : ((.code ({ cls := "BundlesOfBids", name := "item", desc := "(II)I" } : MethodName) prog_1_method_14_code (3 : Nat) (some FieldType.int)) : Cond) ∈ tbl := tb_3 (i := 204) (by decide +kernel) rfl
theorem tn_685 : ((.methodLinkNest "BundlesOfBids" (208 : Nat) ({ cls := "BundlesOfBids$Sale", name := "holders", desc := "(I)I" } : MethodName) "BundlesOfBids") : Cond) ∈ tbn := tn__3 (i := 205) (by decide +kernel) rfl
theorem tw_687 : ((.instanceMethod ({ cls := "BundlesOfBids$Sale", name := "holders", desc := "(I)I" } : MethodName)) : Cond) ∈ tbl := tb_3 (i := 207) (by decide +kernel) rfl
theorem tw_688 : ((.code ({ cls := "BundlesOfBids$Sale", name := "holders", desc := "(I)I" } : MethodName) prog_5_method_19_code (4 : Nat) (some FieldType.int)) : Cond) ∈ tbl := tb_3 (i := 208) (by decide +kernel) rfl
theorem tw_689 : ((.methodLink "BundlesOfBids" (211 : Nat) ({ cls := "BundlesOfBids", name := "firstBid", desc := "(I)I" } : MethodName)) : Cond) ∈ tbl := tb_3 (i := 209) (by decide +kernel) rfl
theorem tw_690 : ((.static ({ cls := "BundlesOfBids", name := "firstBid", desc := "(I)I" } : MethodName)) : Cond) ∈ tbl := tb_3 (i := 210) (by decide +kernel) rfl
theorem tw_691 : ((.code ({ cls := "BundlesOfBids", name := "firstBid", desc := "(I)I" } : MethodName) prog_1_method_45_code (2 : Nat) (some FieldType.int)) : Cond) ∈ tbl := tb_3 (i := 211) (by decide +kernel) rfl
theorem tw_692 : ((.methodLink "BundlesOfBids" (214 : Nat) ({ cls := "BundlesOfBids", name := "scarcity", desc := "(I)I" } : MethodName)) : Cond) ∈ tbl := tb_3 (i := 212) (by decide +kernel) rfl
theorem tw_694 : ((.instanceMethod ({ cls := "BundlesOfBids", name := "scarcity", desc := "(I)I" } : MethodName)) : Cond) ∈ tbl := tb_3 (i := 214) (by decide +kernel) rfl
theorem tw_695 : ((.code ({ cls := "BundlesOfBids", name := "scarcity", desc := "(I)I" } : MethodName) prog_1_method_52_code (2 : Nat) (some FieldType.int)) : Cond) ∈ tbl := tb_3 (i := 215) (by decide +kernel) rfl
theorem tw_696 : ((.methodLink "BundlesOfBids" (217 : Nat) ({ cls := "java/lang/Integer", name := "bitCount", desc := "(I)I" } : MethodName)) : Cond) ∈ tbl := tb_3 (i := 216) (by decide +kernel) rfl
theorem tw_697 : ((.methodLink "BundlesOfBidsLaw" (69 : Nat) ({ cls := "BundlesOfBids", name := "rival", desc := "(II)I" } : MethodName)) : Cond) ∈ tbl := tb_3 (i := 217) (by decide +kernel) rfl
theorem tw_698 : ((.instanceMethod ({ cls := "BundlesOfBids", name := "rival", desc := "(II)I" } : MethodName)) : Cond) ∈ tbl := tb_3 (i := 218) (by decide +kernel) rfl
theorem tw_699 : ((.selects "BundlesOfBids" ({ cls := "BundlesOfBids", name := "rival", desc := "(II)I" } : MethodName) ({ cls := "BundlesOfBids", name := "rival", desc := "(II)I" } : MethodName)) : Cond) ∈ tbl := tb_3 (i := 219) (by decide +kernel) rfl
theorem tw_700 : ((.code ({ cls := "BundlesOfBids", name := "rival", desc := "(II)I" } : MethodName) prog_1_method_15_code (4 : Nat) (some FieldType.int)) : Cond) ∈ tbl := tb_3 (i := 220) (by decide +kernel) rfl
theorem tn_701 : ((.methodLinkNest "BundlesOfBids" (222 : Nat) ({ cls := "BundlesOfBids$Sale", name := "pricesOf", desc := "(I)I" } : MethodName) "BundlesOfBids") : Cond) ∈ tbn := tn__3 (i := 221) (by decide +kernel) rfl
theorem tw_702 : ((.methodLink "BundlesOfBids" (225 : Nat) ({ cls := "java/lang/Math", name := "max", desc := "(II)I" } : MethodName)) : Cond) ∈ tbl := tb_3 (i := 222) (by decide +kernel) rfl
theorem tw_703 : ((.methodLink "BundlesOfBidsLaw" (73 : Nat) ({ cls := "BundlesOfBids", name := "of", desc := "(II)I" } : MethodName)) : Cond) ∈ tbl := tb_3 (i := 223) (by decide +kernel) rfl
theorem tw_704 : ((.instanceMethod ({ cls := "BundlesOfBids", name := "of", desc := "(II)I" } : MethodName)) : Cond) ∈ tbl := tb_3 (i := 224) (by decide +kernel) rfl
theorem tw_705 : ((.selects "BundlesOfBids" ({ cls := "BundlesOfBids", name := "of", desc := "(II)I" } : MethodName) ({ cls := "BundlesOfBids", name := "of", desc := "(II)I" } : MethodName)) : Cond) ∈ tbl := tb_3 (i := 225) (by decide +kernel) rfl
theorem tw_706 : ((.code ({ cls := "BundlesOfBids", name := "of", desc := "(II)I" } : MethodName) prog_1_method_16_code (3 : Nat) (some FieldType.int)) : Cond) ∈ tbl := tb_3 (i := 226) (by decide +kernel) rfl
theorem tw_707 : ((.methodLink "BundlesOfBidsLaw" (77 : Nat) ({ cls := "BundlesOfBids", name := "pays", desc := "(II)I" } : MethodName)) : Cond) ∈ tbl := tb_3 (i := 227) (by decide +kernel) rfl
theorem tw_708 : ((.instanceMethod ({ cls := "BundlesOfBids", name := "pays", desc := "(II)I" } : MethodName)) : Cond) ∈ tbl := tb_3 (i := 228) (by decide +kernel) rfl
theorem tw_709 : ((.selects "BundlesOfBids" ({ cls := "BundlesOfBids", name := "pays", desc := "(II)I" } : MethodName) ({ cls := "BundlesOfBids", name := "pays", desc := "(II)I" } : MethodName)) : Cond) ∈ tbl := tb_3 (i := 229) (by decide +kernel) rfl
theorem tw_710 : ((.code ({ cls := "BundlesOfBids", name := "pays", desc := "(II)I" } : MethodName) prog_1_method_17_code (3 : Nat) (some FieldType.int)) : Cond) ∈ tbl := tb_3 (i := 230) (by decide +kernel) rfl
theorem tw_711 : ((.methodLink "BundlesOfBids" (233 : Nat) ({ cls := "BundlesOfBids", name := "isHow", desc := "(I)Z" } : MethodName)) : Cond) ∈ tbl := tb_3 (i := 231) (by decide +kernel) rfl
theorem tw_712 : ((.static ({ cls := "BundlesOfBids", name := "isHow", desc := "(I)Z" } : MethodName)) : Cond) ∈ tbl := tb_3 (i := 232) (by decide +kernel) rfl
theorem tw_713 : ((.code ({ cls := "BundlesOfBids", name := "isHow", desc := "(I)Z" } : MethodName) prog_1_method_41_code (1 : Nat) (Option.some FieldType.boolean)) : Cond) ∈ tbl := tb_3 (i := 233) (by decide +kernel) rfl
theorem tw_714 : ((.methodLink "BundlesOfBids" (236 : Nat) ({ cls := "BundlesOfBids", name := "chargeAndLift", desc := "()V" } : MethodName)) : Cond) ∈ tbl := tb_3 (i := 234) (by decide +kernel) rfl
theorem tw_716 : ((.instanceMethod ({ cls := "BundlesOfBids", name := "chargeAndLift", desc := "()V" } : MethodName)) : Cond) ∈ tbl := tb_3 (i := 236) (by decide +kernel) rfl
theorem tw_717 : ((.code ({ cls := "BundlesOfBids", name := "chargeAndLift", desc := "()V" } : MethodName) prog_1_method_50_code (1 : Nat) (Option.none : Option FieldType)) : Cond) ∈ tbl := tb_3 (i := 237) (by decide +kernel) rfl
theorem tn_718 : ((.methodLinkNest "BundlesOfBids" (325 : Nat) ({ cls := "BundlesOfBids$Bill", name := "lift", desc := "(LBundlesOfBids$Sale;LBundlesOfBids$Outcomes;)V" } : MethodName) "BundlesOfBids") : Cond) ∈ tbn := tn__3 (i := 238) (by decide +kernel) rfl
theorem tw_720 : ((.instanceMethod ({ cls := "BundlesOfBids$Bill", name := "lift", desc := "(LBundlesOfBids$Sale;LBundlesOfBids$Outcomes;)V" } : MethodName)) : Cond) ∈ tbl := tb_4 (i := 0) (by decide +kernel) rfl
theorem tw_721 : ((.code ({ cls := "BundlesOfBids$Bill", name := "lift", desc := "(LBundlesOfBids$Sale;LBundlesOfBids$Outcomes;)V" } : MethodName) prog_2_method_8_code (4 : Nat) (Option.none : Option FieldType)) : Cond) ∈ tbl := tb_4 (i := 1) (by decide +kernel) rfl
theorem tn_722 : ((.methodLinkNest "BundlesOfBids$Bill" (77 : Nat) ({ cls := "BundlesOfBids$Sale", name := "itemsOf", desc := "(I)I" } : MethodName) "BundlesOfBids") : Cond) ∈ tbn := tn__4 (i := 2) (by decide +kernel) rfl
theorem tn_723 : ((.methodLinkNest "BundlesOfBids$Bill" (80 : Nat) ({ cls := "BundlesOfBids$Sale", name := "reservesBut", desc := "(I)I" } : MethodName) "BundlesOfBids") : Cond) ∈ tbn := tn__4 (i := 3) (by decide +kernel) rfl
theorem tw_724 : ((.methodLink "BundlesOfBids$Bill" (83 : Nat) ({ cls := "java/lang/System", name := "arraycopy", desc := "(Ljava/lang/Object;ILjava/lang/Object;II)V" } : MethodName)) : Cond) ∈ tbl := tb_4 (i := 4) (by decide +kernel) rfl
theorem tw_725 : ((.methodLink "BundlesOfBids$Bill" (89 : Nat) ({ cls := "BundlesOfBids$Bill", name := "blocker", desc := "([I)I" } : MethodName)) : Cond) ∈ tbl := tb_4 (i := 5) (by decide +kernel) rfl
theorem tw_727 : ((.instanceMethod ({ cls := "BundlesOfBids$Bill", name := "blocker", desc := "([I)I" } : MethodName)) : Cond) ∈ tbl := tb_4 (i := 7) (by decide +kernel) rfl
theorem tw_728 : ((.code ({ cls := "BundlesOfBids$Bill", name := "blocker", desc := "([I)I" } : MethodName) prog_2_method_11_code (5 : Nat) (some FieldType.int)) : Cond) ∈ tbl := tb_4 (i := 8) (by decide +kernel) rfl
theorem tw_729 : ((.methodLink "BundlesOfBids$Bill" (94 : Nat) ({ cls := "BundlesOfBids$Bill", name := "excess", desc := "([II)I" } : MethodName)) : Cond) ∈ tbl := tb_4 (i := 9) (by decide +kernel) rfl
theorem tw_731 : ((.instanceMethod ({ cls := "BundlesOfBids$Bill", name := "excess", desc := "([II)I" } : MethodName)) : Cond) ∈ tbl := tb_4 (i := 11) (by decide +kernel) rfl
theorem tw_732 : ((.code ({ cls := "BundlesOfBids$Bill", name := "excess", desc := "([II)I" } : MethodName) prog_2_method_10_code (4 : Nat) (some FieldType.int)) : Cond) ∈ tbl := tb_4 (i := 12) (by decide +kernel) rfl
theorem tw_733 : ((.constant "BundlesOfBids$Bill" (93 : Nat) (100000 : Int32)) : Cond) ∈ tbl := tb_4 (i := 13) (by decide +kernel) rfl
theorem tw_734 : ((.methodLink "BundlesOfBids$Bill" (97 : Nat) ({ cls := "BundlesOfBids$Bill", name := "putOnOthers", desc := "(II)V" } : MethodName)) : Cond) ∈ tbl := tb_4 (i := 14) (by decide +kernel) rfl
theorem tw_736 : ((.instanceMethod ({ cls := "BundlesOfBids$Bill", name := "putOnOthers", desc := "(II)V" } : MethodName)) : Cond) ∈ tbl := tb_4 (i := 16) (by decide +kernel) rfl
theorem tw_737 : ((.code ({ cls := "BundlesOfBids$Bill", name := "putOnOthers", desc := "(II)V" } : MethodName) prog_2_method_9_code (6 : Nat) (Option.none : Option FieldType)) : Cond) ∈ tbl := tb_4 (i := 17) (by decide +kernel) rfl
theorem tw_738 : ((.methodLink "BundlesOfBids$Bill" (101 : Nat) ({ cls := "java/lang/Math", name := "min", desc := "(II)I" } : MethodName)) : Cond) ∈ tbl := tb_4 (i := 18) (by decide +kernel) rfl
theorem tw_739 : ((.static ({ cls := "java/lang/Math", name := "min", desc := "(II)I" } : MethodName)) : Cond) ∈ tbl := tb_4 (i := 19) (by decide +kernel) rfl
theorem tw_740 : ((.code ({ cls := "java/lang/Math", name := "min", desc := "(II)I" } : MethodName) prog_13_method_69_code (2 : Nat) (some FieldType.int)) : Cond) ∈ tbl := tb_4 (i := 20) (by decide +kernel) rfl
theorem tn_741 : ((.methodLinkNest "BundlesOfBids" (239 : Nat) ({ cls := "BundlesOfBids$Bill", name := "payment", desc := "(II)I" } : MethodName) "BundlesOfBids") : Cond) ∈ tbn := tn__4 (i := 21) (by decide +kernel) rfl
theorem tw_743 : ((.instanceMethod ({ cls := "BundlesOfBids$Bill", name := "payment", desc := "(II)I" } : MethodName)) : Cond) ∈ tbl := tb_4 (i := 23) (by decide +kernel) rfl
theorem tw_744 : ((.code ({ cls := "BundlesOfBids$Bill", name := "payment", desc := "(II)I" } : MethodName) prog_2_method_6_code (3 : Nat) (some FieldType.int)) : Cond) ∈ tbl := tb_4 (i := 24) (by decide +kernel) rfl
theorem tn_745 : ((.methodLinkNest "BundlesOfBids$Bill" (65 : Nat) ({ cls := "BundlesOfBids", name := "isBidder", desc := "(I)Z" } : MethodName) "BundlesOfBids") : Cond) ∈ tbn := tn__4 (i := 25) (by decide +kernel) rfl
theorem tw_746 : ((.methodLink "BundlesOfBids$Bill" (69 : Nat) ({ cls := "BundlesOfBids$Bill", name := "payments", desc := "(I)[I" } : MethodName)) : Cond) ∈ tbl := tb_4 (i := 26) (by decide +kernel) rfl
theorem tw_748 : ((.instanceMethod ({ cls := "BundlesOfBids$Bill", name := "payments", desc := "(I)[I" } : MethodName)) : Cond) ∈ tbl := tb_4 (i := 28) (by decide +kernel) rfl
theorem tw_749 : ((.code ({ cls := "BundlesOfBids$Bill", name := "payments", desc := "(I)[I" } : MethodName) prog_2_method_5_code (2 : Nat) (Option.some (FieldType.array FieldType.int))) : Cond) ∈ tbl := tb_4 (i := 29) (by decide +kernel) rfl
theorem tw_750 : ((.methodLink "BundlesOfBidsLaw" (81 : Nat) ({ cls := "BundlesOfBids", name := "blocks", desc := "(II)I" } : MethodName)) : Cond) ∈ tbl := tb_4 (i := 30) (by decide +kernel) rfl
theorem tw_751 : ((.instanceMethod ({ cls := "BundlesOfBids", name := "blocks", desc := "(II)I" } : MethodName)) : Cond) ∈ tbl := tb_4 (i := 31) (by decide +kernel) rfl
theorem tw_752 : ((.selects "BundlesOfBids" ({ cls := "BundlesOfBids", name := "blocks", desc := "(II)I" } : MethodName) ({ cls := "BundlesOfBids", name := "blocks", desc := "(II)I" } : MethodName)) : Cond) ∈ tbl := tb_4 (i := 32) (by decide +kernel) rfl
theorem tw_753 : ((.code ({ cls := "BundlesOfBids", name := "blocks", desc := "(II)I" } : MethodName) prog_1_method_18_code (5 : Nat) (some FieldType.int)) : Cond) ∈ tbl := tb_4 (i := 33) (by decide +kernel) rfl
theorem tn_754 : ((.methodLinkNest "BundlesOfBids" (242 : Nat) ({ cls := "BundlesOfBids$Bill", name := "payments", desc := "(I)[I" } : MethodName) "BundlesOfBids") : Cond) ∈ tbn := tn__4 (i := 34) (by decide +kernel) rfl
theorem tn_755 : ((.methodLinkNest "BundlesOfBids" (246 : Nat) ({ cls := "BundlesOfBids$Bill", name := "blocker", desc := "([I)I" } : MethodName) "BundlesOfBids") : Cond) ∈ tbn := tn__4 (i := 35) (by decide +kernel) rfl
theorem tn_756 : ((.methodLinkNest "BundlesOfBids" (250 : Nat) ({ cls := "BundlesOfBids$Bill", name := "excess", desc := "([II)I" } : MethodName) "BundlesOfBids") : Cond) ∈ tbn := tn__4 (i := 36) (by decide +kernel) rfl
theorem tw_757 : ((.methodLink "BundlesOfBidsLaw" (85 : Nat) ({ cls := "BundlesOfBids", name := "lifts", desc := "()I" } : MethodName)) : Cond) ∈ tbl := tb_4 (i := 37) (by decide +kernel) rfl
theorem tw_758 : ((.instanceMethod ({ cls := "BundlesOfBids", name := "lifts", desc := "()I" } : MethodName)) : Cond) ∈ tbl := tb_4 (i := 38) (by decide +kernel) rfl
theorem tw_759 : ((.selects "BundlesOfBids" ({ cls := "BundlesOfBids", name := "lifts", desc := "()I" } : MethodName) ({ cls := "BundlesOfBids", name := "lifts", desc := "()I" } : MethodName)) : Cond) ∈ tbl := tb_4 (i := 39) (by decide +kernel) rfl
theorem tw_760 : ((.code ({ cls := "BundlesOfBids", name := "lifts", desc := "()I" } : MethodName) prog_1_method_19_code (1 : Nat) (some FieldType.int)) : Cond) ∈ tbl := tb_4 (i := 40) (by decide +kernel) rfl
theorem tw_761 : ((.methodLink "BundlesOfBidsLaw" (89 : Nat) ({ cls := "BundlesOfBids", name := "group", desc := "(II)I" } : MethodName)) : Cond) ∈ tbl := tb_4 (i := 41) (by decide +kernel) rfl
theorem tw_762 : ((.instanceMethod ({ cls := "BundlesOfBids", name := "group", desc := "(II)I" } : MethodName)) : Cond) ∈ tbl := tb_4 (i := 42) (by decide +kernel) rfl
theorem tw_763 : ((.selects "BundlesOfBids" ({ cls := "BundlesOfBids", name := "group", desc := "(II)I" } : MethodName) ({ cls := "BundlesOfBids", name := "group", desc := "(II)I" } : MethodName)) : Cond) ∈ tbl := tb_4 (i := 43) (by decide +kernel) rfl
theorem tw_764 : ((.code ({ cls := "BundlesOfBids", name := "group", desc := "(II)I" } : MethodName) prog_1_method_20_code (3 : Nat) (some FieldType.int)) : Cond) ∈ tbl := tb_4 (i := 44) (by decide +kernel) rfl
theorem tw_765 : ((.methodLink "BundlesOfBidsLaw" (93 : Nat) ({ cls := "BundlesOfBids", name := "envy", desc := "(II)I" } : MethodName)) : Cond) ∈ tbl := tb_4 (i := 45) (by decide +kernel) rfl
theorem tw_766 : ((.instanceMethod ({ cls := "BundlesOfBids", name := "envy", desc := "(II)I" } : MethodName)) : Cond) ∈ tbl := tb_4 (i := 46) (by decide +kernel) rfl
theorem tw_767 : ((.selects "BundlesOfBids" ({ cls := "BundlesOfBids", name := "envy", desc := "(II)I" } : MethodName) ({ cls := "BundlesOfBids", name := "envy", desc := "(II)I" } : MethodName)) : Cond) ∈ tbl := tb_4 (i := 47) (by decide +kernel) rfl
theorem tw_768 : ((.code ({ cls := "BundlesOfBids", name := "envy", desc := "(II)I" } : MethodName) prog_1_method_21_code (7 : Nat) (some FieldType.int)) : Cond) ∈ tbl := tb_4 (i := 48) (by decide +kernel) rfl
theorem tn_769 : ((.methodLinkNest "BundlesOfBids" (268 : Nat) ({ cls := "BundlesOfBids$Outcomes", name := "mostPrices", desc := "(LBundlesOfBids$Sale;I)I" } : MethodName) "BundlesOfBids") : Cond) ∈ tbn := tn__4 (i := 49) (by decide +kernel) rfl
theorem tw_771 : ((.instanceMethod ({ cls := "BundlesOfBids$Outcomes", name := "mostPrices", desc := "(LBundlesOfBids$Sale;I)I" } : MethodName)) : Cond) ∈ tbl := tb_4 (i := 51) (by decide +kernel) rfl
theorem tw_772 : ((.code ({ cls := "BundlesOfBids$Outcomes", name := "mostPrices", desc := "(LBundlesOfBids$Sale;I)I" } : MethodName) prog_3_method_13_code (6 : Nat) (some FieldType.int)) : Cond) ∈ tbl := tb_4 (i := 52) (by decide +kernel) rfl
theorem tn_773 : ((.methodLinkNest "BundlesOfBids$Outcomes" (83 : Nat) ({ cls := "BundlesOfBids$Sale", name := "pricesOf", desc := "(I)I" } : MethodName) "BundlesOfBids") : Cond) ∈ tbn := tn__4 (i := 53) (by decide +kernel) rfl
theorem tw_774 : ((.methodLink "BundlesOfBids$Outcomes" (86 : Nat) ({ cls := "java/lang/Math", name := "max", desc := "(II)I" } : MethodName)) : Cond) ∈ tbl := tb_4 (i := 54) (by decide +kernel) rfl
theorem tw_775 : ((.methodLink "BundlesOfBidsLaw" (97 : Nat) ({ cls := "BundlesOfBids", name := "gain", desc := "(I)I" } : MethodName)) : Cond) ∈ tbl := tb_4 (i := 55) (by decide +kernel) rfl
theorem tw_776 : ((.instanceMethod ({ cls := "BundlesOfBids", name := "gain", desc := "(I)I" } : MethodName)) : Cond) ∈ tbl := tb_4 (i := 56) (by decide +kernel) rfl
theorem tw_777 : ((.selects "BundlesOfBids" ({ cls := "BundlesOfBids", name := "gain", desc := "(I)I" } : MethodName) ({ cls := "BundlesOfBids", name := "gain", desc := "(I)I" } : MethodName)) : Cond) ∈ tbl := tb_4 (i := 57) (by decide +kernel) rfl
theorem tw_778 : ((.code ({ cls := "BundlesOfBids", name := "gain", desc := "(I)I" } : MethodName) prog_1_method_22_code (3 : Nat) (some FieldType.int)) : Cond) ∈ tbl := tb_4 (i := 58) (by decide +kernel) rfl
theorem tw_779 : ((.constant "BundlesOfBids" (272 : Nat) (-100000 : Int32)) : Cond) ∈ tbl := tb_4 (i := 59) (by decide +kernel) rfl
theorem tw_780 : ((.methodLink "BundlesOfBids" (273 : Nat) ({ cls := "BundlesOfBids", name := "shillSurplus", desc := "(I)I" } : MethodName)) : Cond) ∈ tbl := tb_4 (i := 60) (by decide +kernel) rfl
theorem tw_782 : ((.instanceMethod ({ cls := "BundlesOfBids", name := "shillSurplus", desc := "(I)I" } : MethodName)) : Cond) ∈ tbl := tb_4 (i := 62) (by decide +kernel) rfl
theorem tw_783 : ((.code ({ cls := "BundlesOfBids", name := "shillSurplus", desc := "(I)I" } : MethodName) prog_1_method_53_code (9 : Nat) (some FieldType.int)) : Cond) ∈ tbl := tb_4 (i := 63) (by decide +kernel) rfl
theorem tw_784 : ((.methodLink "BundlesOfBidsLaw" (101 : Nat) ({ cls := "BundlesOfBids", name := "without", desc := "(I)I" } : MethodName)) : Cond) ∈ tbl := tb_4 (i := 64) (by decide +kernel) rfl
theorem tw_785 : ((.instanceMethod ({ cls := "BundlesOfBids", name := "without", desc := "(I)I" } : MethodName)) : Cond) ∈ tbl := tb_4 (i := 65) (by decide +kernel) rfl
theorem tw_786 : ((.selects "BundlesOfBids" ({ cls := "BundlesOfBids", name := "without", desc := "(I)I" } : MethodName) ({ cls := "BundlesOfBids", name := "without", desc := "(I)I" } : MethodName)) : Cond) ∈ tbl := tb_4 (i := 66) (by decide +kernel) rfl
theorem tw_787 : ((.code ({ cls := "BundlesOfBids", name := "without", desc := "(I)I" } : MethodName) prog_1_method_23_code (2 : Nat) (some FieldType.int)) : Cond) ∈ tbl := tb_4 (i := 67) (by decide +kernel) rfl
theorem tw_788 : ((.methodLink "BundlesOfBidsLaw" (105 : Nat) ({ cls := "BundlesOfBids", name := "least", desc := "(I)I" } : MethodName)) : Cond) ∈ tbl := tb_4 (i := 68) (by decide +kernel) rfl
theorem tw_789 : ((.instanceMethod ({ cls := "BundlesOfBids", name := "least", desc := "(I)I" } : MethodName)) : Cond) ∈ tbl := tb_4 (i := 69) (by decide +kernel) rfl
theorem tw_790 : ((.selects "BundlesOfBids" ({ cls := "BundlesOfBids", name := "least", desc := "(I)I" } : MethodName) ({ cls := "BundlesOfBids", name := "least", desc := "(I)I" } : MethodName)) : Cond) ∈ tbl := tb_4 (i := 70) (by decide +kernel) rfl
theorem tw_791 : ((.code ({ cls := "BundlesOfBids", name := "least", desc := "(I)I" } : MethodName) prog_1_method_24_code (3 : Nat) (some FieldType.int)) : Cond) ∈ tbl := tb_4 (i := 71) (by decide +kernel) rfl
theorem tw_792 : ((.methodLink "BundlesOfBidsLaw" (109 : Nat) ({ cls := "BundlesOfBids", name := "tight", desc := "()I" } : MethodName)) : Cond) ∈ tbl := tb_4 (i := 72) (by decide +kernel) rfl
theorem tw_793 : ((.instanceMethod ({ cls := "BundlesOfBids", name := "tight", desc := "()I" } : MethodName)) : Cond) ∈ tbl := tb_4 (i := 73) (by decide +kernel) rfl
theorem tw_794 : ((.selects "BundlesOfBids" ({ cls := "BundlesOfBids", name := "tight", desc := "()I" } : MethodName) ({ cls := "BundlesOfBids", name := "tight", desc := "()I" } : MethodName)) : Cond) ∈ tbl := tb_4 (i := 74) (by decide +kernel) rfl
theorem tw_795 : ((.code ({ cls := "BundlesOfBids", name := "tight", desc := "()I" } : MethodName) prog_1_method_25_code (4 : Nat) (some FieldType.int)) : Cond) ∈ tbl := tb_4 (i := 75) (by decide +kernel) rfl
theorem tw_796 : ((.methodLink "BundlesOfBidsLaw" (113 : Nat) ({ cls := "BundlesOfBids", name := "missing", desc := "(III)J" } : MethodName)) : Cond) ∈ tbl := tb_4 (i := 76) (by decide +kernel) rfl
theorem tw_797 : ((.instanceMethod ({ cls := "BundlesOfBids", name := "missing", desc := "(III)J" } : MethodName)) : Cond) ∈ tbl := tb_4 (i := 77) (by decide +kernel) rfl
theorem tw_798 : ((.selects "BundlesOfBids" ({ cls := "BundlesOfBids", name := "missing", desc := "(III)J" } : MethodName) ({ cls := "BundlesOfBids", name := "missing", desc := "(III)J" } : MethodName)) : Cond) ∈ tbl := tb_4 (i := 78) (by decide +kernel) rfl
theorem tw_799 : ((.code ({ cls := "BundlesOfBids", name := "missing", desc := "(III)J" } : MethodName) prog_1_method_26_code (8 : Nat) (Option.some FieldType.long)) : Cond) ∈ tbl := tb_4 (i := 79) (by decide +kernel) rfl
theorem tw_800 : ((.methodLink "BundlesOfBids" (279 : Nat) ({ cls := "BundlesOfBids", name := "refuseLong", desc := "(I)J" } : MethodName)) : Cond) ∈ tbl := tb_4 (i := 80) (by decide +kernel) rfl
theorem tw_802 : ((.instanceMethod ({ cls := "BundlesOfBids", name := "refuseLong", desc := "(I)J" } : MethodName)) : Cond) ∈ tbl := tb_4 (i := 82) (by decide +kernel) rfl
theorem tw_803 : ((.code ({ cls := "BundlesOfBids", name := "refuseLong", desc := "(I)J" } : MethodName) prog_1_method_38_code (2 : Nat) (Option.some FieldType.long)) : Cond) ∈ tbl := tb_4 (i := 83) (by decide +kernel) rfl
theorem tw_804 : ((.constantLong "BundlesOfBids" (320 : Nat) (4000000000000000000 : Int64)) : Cond) ∈ tbl := tb_4 (i := 84) (by decide +kernel) rfl
theorem tw_805 : ((.methodLink "BundlesOfBids" (283 : Nat) ({ cls := "BundlesOfBids", name := "power", desc := "(JI)J" } : MethodName)) : Cond) ∈ tbl := tb_4 (i := 85) (by decide +kernel) rfl
theorem tw_806 : ((.static ({ cls := "BundlesOfBids", name := "power", desc := "(JI)J" } : MethodName)) : Cond) ∈ tbl := tb_4 (i := 86) (by decide +kernel) rfl
theorem tw_807 : ((.code ({ cls := "BundlesOfBids", name := "power", desc := "(JI)J" } : MethodName) prog_1_method_57_code (6 : Nat) (Option.some FieldType.long)) : Cond) ∈ tbl := tb_4 (i := 87) (by decide +kernel) rfl
theorem tw_808 : ((.methodLink "BundlesOfBids" (287 : Nat) ({ cls := "BundlesOfBids", name := "fraction", desc := "(JJI)J" } : MethodName)) : Cond) ∈ tbl := tb_4 (i := 88) (by decide +kernel) rfl
theorem tw_809 : ((.static ({ cls := "BundlesOfBids", name := "fraction", desc := "(JJI)J" } : MethodName)) : Cond) ∈ tbl := tb_4 (i := 89) (by decide +kernel) rfl
theorem tw_810 : ((.code ({ cls := "BundlesOfBids", name := "fraction", desc := "(JJI)J" } : MethodName) prog_1_method_58_code (9 : Nat) (Option.some FieldType.long)) : Cond) ∈ tbl := tb_4 (i := 90) (by decide +kernel) rfl
theorem tw_811 : ((.methodLink "BundlesOfBids" (337 : Nat) ({ cls := "BundlesOfBids", name := "greatestDivisor", desc := "(JJ)J" } : MethodName)) : Cond) ∈ tbl := tb_4 (i := 91) (by decide +kernel) rfl
theorem tw_812 : ((.static ({ cls := "BundlesOfBids", name := "greatestDivisor", desc := "(JJ)J" } : MethodName)) : Cond) ∈ tbl := tb_4 (i := 92) (by decide +kernel) rfl
theorem tw_813 : ((.code ({ cls := "BundlesOfBids", name := "greatestDivisor", desc := "(JJ)J" } : MethodName) prog_1_method_59_code (11 : Nat) (Option.some FieldType.long)) : Cond) ∈ tbl := tb_4 (i := 93) (by decide +kernel) rfl
theorem tw_814 : ((.methodLink "BundlesOfBidsLaw" (118 : Nat) ({ cls := "BundlesOfBids", name := "mean", desc := "(II)J" } : MethodName)) : Cond) ∈ tbl := tb_4 (i := 94) (by decide +kernel) rfl
theorem tw_815 : ((.instanceMethod ({ cls := "BundlesOfBids", name := "mean", desc := "(II)J" } : MethodName)) : Cond) ∈ tbl := tb_4 (i := 95) (by decide +kernel) rfl
theorem tw_816 : ((.selects "BundlesOfBids" ({ cls := "BundlesOfBids", name := "mean", desc := "(II)J" } : MethodName) ({ cls := "BundlesOfBids", name := "mean", desc := "(II)J" } : MethodName)) : Cond) ∈ tbl := tb_4 (i := 96) (by decide +kernel) rfl
theorem tw_817 : ((.code ({ cls := "BundlesOfBids", name := "mean", desc := "(II)J" } : MethodName) prog_1_method_27_code (3 : Nat) (Option.some FieldType.long)) : Cond) ∈ tbl := tb_4 (i := 97) (by decide +kernel) rfl
theorem tn_818 : ((.methodLinkNest "BundlesOfBids" (291 : Nat) ({ cls := "BundlesOfBids$Bill", name := "happy", desc := "()I" } : MethodName) "BundlesOfBids") : Cond) ∈ tbn := tn__4 (i := 98) (by decide +kernel) rfl
theorem tw_820 : ((.instanceMethod ({ cls := "BundlesOfBids$Bill", name := "happy", desc := "()I" } : MethodName)) : Cond) ∈ tbl := tb_4 (i := 100) (by decide +kernel) rfl
theorem tw_821 : ((.code ({ cls := "BundlesOfBids$Bill", name := "happy", desc := "()I" } : MethodName) prog_2_method_4_code (3 : Nat) (some FieldType.int)) : Cond) ∈ tbl := tb_4 (i := 101) (by decide +kernel) rfl
theorem tw_822 : ((.methodLink "BundlesOfBidsLaw" (123 : Nat) ({ cls := "BundlesOfBids", name := "printed", desc := "(I)I" } : MethodName)) : Cond) ∈ tbl := tb_4 (i := 102) (by decide +kernel) rfl
theorem tw_823 : ((.instanceMethod ({ cls := "BundlesOfBids", name := "printed", desc := "(I)I" } : MethodName)) : Cond) ∈ tbl := tb_4 (i := 103) (by decide +kernel) rfl
theorem tw_824 : ((.selects "BundlesOfBids" ({ cls := "BundlesOfBids", name := "printed", desc := "(I)I" } : MethodName) ({ cls := "BundlesOfBids", name := "printed", desc := "(I)I" } : MethodName)) : Cond) ∈ tbl := tb_4 (i := 104) (by decide +kernel) rfl
theorem tw_825 : ((.code ({ cls := "BundlesOfBids", name := "printed", desc := "(I)I" } : MethodName) prog_1_method_28_code (3 : Nat) (some FieldType.int)) : Cond) ∈ tbl := tb_4 (i := 105) (by decide +kernel) rfl
theorem tn_826 : ((.methodLinkNest "BundlesOfBids" (294 : Nat) ({ cls := "BundlesOfBids$Print", name := "putWinners", desc := "(LBundlesOfBids$Sale;II)V" } : MethodName) "BundlesOfBids") : Cond) ∈ tbn := tn__4 (i := 106) (by decide +kernel) rfl
theorem tw_828 : ((.instanceMethod ({ cls := "BundlesOfBids$Print", name := "putWinners", desc := "(LBundlesOfBids$Sale;II)V" } : MethodName)) : Cond) ∈ tbl := tb_4 (i := 108) (by decide +kernel) rfl
theorem tw_829 : ((.code ({ cls := "BundlesOfBids$Print", name := "putWinners", desc := "(LBundlesOfBids$Sale;II)V" } : MethodName) prog_4_method_3_code (5 : Nat) (Option.none : Option FieldType)) : Cond) ∈ tbl := tb_4 (i := 109) (by decide +kernel) rfl
theorem tn_830 : ((.methodLinkNest "BundlesOfBids$Print" (24 : Nat) ({ cls := "BundlesOfBids", name := "bitAt", desc := "(II)I" } : MethodName) "BundlesOfBids") : Cond) ∈ tbn := tn__4 (i := 110) (by decide +kernel) rfl
theorem tw_831 : ((.methodLink "BundlesOfBids$Print" (28 : Nat) ({ cls := "BundlesOfBids$Print", name := "put", desc := "(I)V" } : MethodName)) : Cond) ∈ tbl := tb_4 (i := 111) (by decide +kernel) rfl
theorem tw_833 : ((.instanceMethod ({ cls := "BundlesOfBids$Print", name := "put", desc := "(I)V" } : MethodName)) : Cond) ∈ tbl := tb_4 (i := 113) (by decide +kernel) rfl
theorem tw_834 : ((.code ({ cls := "BundlesOfBids$Print", name := "put", desc := "(I)V" } : MethodName) prog_4_method_6_code (2 : Nat) (Option.none : Option FieldType)) : Cond) ∈ tbl := tb_4 (i := 114) (by decide +kernel) rfl
theorem tw_835 : ((.methodLink "BundlesOfBids$Print" (32 : Nat) ({ cls := "BundlesOfBids$Print", name := "putBid", desc := "(LBundlesOfBids$Sale;I)V" } : MethodName)) : Cond) ∈ tbl := tb_4 (i := 115) (by decide +kernel) rfl
theorem tw_837 : ((.instanceMethod ({ cls := "BundlesOfBids$Print", name := "putBid", desc := "(LBundlesOfBids$Sale;I)V" } : MethodName)) : Cond) ∈ tbl := tb_4 (i := 117) (by decide +kernel) rfl
theorem tw_838 : ((.code ({ cls := "BundlesOfBids$Print", name := "putBid", desc := "(LBundlesOfBids$Sale;I)V" } : MethodName) prog_4_method_4_code (4 : Nat) (Option.none : Option FieldType)) : Cond) ∈ tbl := tb_4 (i := 118) (by decide +kernel) rfl
theorem tn_839 : ((.methodLinkNest "BundlesOfBids$Print" (39 : Nat) ({ cls := "BundlesOfBids$Sale", name := "bidderOf", desc := "(I)I" } : MethodName) "BundlesOfBids") : Cond) ∈ tbn := tn__4 (i := 119) (by decide +kernel) rfl
theorem tw_840 : ((.methodLink "BundlesOfBids$Print" (36 : Nat) ({ cls := "BundlesOfBids$Print", name := "putNumber", desc := "(I)V" } : MethodName)) : Cond) ∈ tbl := tb_4 (i := 120) (by decide +kernel) rfl
theorem tw_842 : ((.instanceMethod ({ cls := "BundlesOfBids$Print", name := "putNumber", desc := "(I)V" } : MethodName)) : Cond) ∈ tbl := tb_4 (i := 122) (by decide +kernel) rfl
theorem tw_843 : ((.code ({ cls := "BundlesOfBids$Print", name := "putNumber", desc := "(I)V" } : MethodName) prog_4_method_5_code (2 : Nat) (Option.none : Option FieldType)) : Cond) ∈ tbl := tb_4 (i := 123) (by decide +kernel) rfl
theorem tn_844 : ((.methodLinkNest "BundlesOfBids$Print" (43 : Nat) ({ cls := "BundlesOfBids$Sale", name := "setOf", desc := "(I)I" } : MethodName) "BundlesOfBids") : Cond) ∈ tbn := tn__4 (i := 124) (by decide +kernel) rfl
theorem tn_845 : ((.methodLinkNest "BundlesOfBids$Print" (46 : Nat) ({ cls := "BundlesOfBids$Sale", name := "priceOf", desc := "(I)I" } : MethodName) "BundlesOfBids") : Cond) ∈ tbn := tn__4 (i := 125) (by decide +kernel) rfl
theorem tn_846 : ((.methodLinkNest "BundlesOfBids" (301 : Nat) ({ cls := "BundlesOfBids$Print", name := "signAt", desc := "(I)I" } : MethodName) "BundlesOfBids") : Cond) ∈ tbn := tn__4 (i := 126) (by decide +kernel) rfl
theorem tw_848 : ((.instanceMethod ({ cls := "BundlesOfBids$Print", name := "signAt", desc := "(I)I" } : MethodName)) : Cond) ∈ tbl := tb_4 (i := 128) (by decide +kernel) rfl
theorem tw_849 : ((.code ({ cls := "BundlesOfBids$Print", name := "signAt", desc := "(I)I" } : MethodName) prog_4_method_2_code (2 : Nat) (some FieldType.int)) : Cond) ∈ tbl := tb_4 (i := 129) (by decide +kernel) rfl
theorem tw_850 : ((.methodLink "BundlesOfBidsLaw" (127 : Nat) ({ cls := "BundlesOfBids", name := "whatIs", desc := "(II)I" } : MethodName)) : Cond) ∈ tbl := tb_4 (i := 130) (by decide +kernel) rfl
theorem tw_851 : ((.instanceMethod ({ cls := "BundlesOfBids", name := "whatIs", desc := "(II)I" } : MethodName)) : Cond) ∈ tbl := tb_4 (i := 131) (by decide +kernel) rfl
theorem tw_852 : ((.selects "BundlesOfBids" ({ cls := "BundlesOfBids", name := "whatIs", desc := "(II)I" } : MethodName) ({ cls := "BundlesOfBids", name := "whatIs", desc := "(II)I" } : MethodName)) : Cond) ∈ tbl := tb_4 (i := 132) (by decide +kernel) rfl
theorem tw_853 : ((.code ({ cls := "BundlesOfBids", name := "whatIs", desc := "(II)I" } : MethodName) prog_1_method_29_code (8 : Nat) (some FieldType.int)) : Cond) ∈ tbl := tb_4 (i := 133) (by decide +kernel) rfl
theorem tw_854 : ((.methodLink "BundlesOfBids" (304 : Nat) ({ cls := "BundlesOfBids", name := "firstWrongTold", desc := "(I)I" } : MethodName)) : Cond) ∈ tbl := tb_4 (i := 134) (by decide +kernel) rfl
theorem tw_856 : ((.instanceMethod ({ cls := "BundlesOfBids", name := "firstWrongTold", desc := "(I)I" } : MethodName)) : Cond) ∈ tbl := tb_4 (i := 136) (by decide +kernel) rfl
theorem tw_857 : ((.code ({ cls := "BundlesOfBids", name := "firstWrongTold", desc := "(I)I" } : MethodName) prog_1_method_54_code (3 : Nat) (some FieldType.int)) : Cond) ∈ tbl := tb_4 (i := 137) (by decide +kernel) rfl
theorem tw_858 : ((.methodLink "BundlesOfBidsLaw" (131 : Nat) ({ cls := "BundlesOfBids", name := "row", desc := "(I)I" } : MethodName)) : Cond) ∈ tbl := tb_4 (i := 138) (by decide +kernel) rfl
theorem tw_859 : ((.instanceMethod ({ cls := "BundlesOfBids", name := "row", desc := "(I)I" } : MethodName)) : Cond) ∈ tbl := tb_4 (i := 139) (by decide +kernel) rfl
theorem tw_860 : ((.selects "BundlesOfBids" ({ cls := "BundlesOfBids", name := "row", desc := "(I)I" } : MethodName) ({ cls := "BundlesOfBids", name := "row", desc := "(I)I" } : MethodName)) : Cond) ∈ tbl := tb_4 (i := 140) (by decide +kernel) rfl
theorem tw_861 : ((.code ({ cls := "BundlesOfBids", name := "row", desc := "(I)I" } : MethodName) prog_1_method_30_code (2 : Nat) (some FieldType.int)) : Cond) ∈ tbl := tb_4 (i := 141) (by decide +kernel) rfl
theorem tw_862 : ((.methodLink "BundlesOfBidsLaw" (135 : Nat) ({ cls := "BundlesOfBids", name := "judge", desc := "(I)I" } : MethodName)) : Cond) ∈ tbl := tb_4 (i := 142) (by decide +kernel) rfl
theorem tw_863 : ((.instanceMethod ({ cls := "BundlesOfBids", name := "judge", desc := "(I)I" } : MethodName)) : Cond) ∈ tbl := tb_4 (i := 143) (by decide +kernel) rfl
theorem tw_864 : ((.selects "BundlesOfBids" ({ cls := "BundlesOfBids", name := "judge", desc := "(I)I" } : MethodName) ({ cls := "BundlesOfBids", name := "judge", desc := "(I)I" } : MethodName)) : Cond) ∈ tbl := tb_4 (i := 144) (by decide +kernel) rfl
theorem tw_865 : ((.code ({ cls := "BundlesOfBids", name := "judge", desc := "(I)I" } : MethodName) prog_1_method_31_code (3 : Nat) (some FieldType.int)) : Cond) ∈ tbl := tb_4 (i := 145) (by decide +kernel) rfl
theorem tw_866 : ((.methodLink "BundlesOfBidsLaw" (139 : Nat) ({ cls := "BundlesOfBids", name := "clear", desc := "()I" } : MethodName)) : Cond) ∈ tbl := tb_4 (i := 146) (by decide +kernel) rfl
theorem tw_867 : ((.instanceMethod ({ cls := "BundlesOfBids", name := "clear", desc := "()I" } : MethodName)) : Cond) ∈ tbl := tb_4 (i := 147) (by decide +kernel) rfl
theorem tw_868 : ((.selects "BundlesOfBids" ({ cls := "BundlesOfBids", name := "clear", desc := "()I" } : MethodName) ({ cls := "BundlesOfBids", name := "clear", desc := "()I" } : MethodName)) : Cond) ∈ tbl := tb_4 (i := 148) (by decide +kernel) rfl
theorem tw_869 : ((.code ({ cls := "BundlesOfBids", name := "clear", desc := "()I" } : MethodName) prog_1_method_32_code (2 : Nat) (some FieldType.int)) : Cond) ∈ tbl := tb_4 (i := 149) (by decide +kernel) rfl
theorem tw_870 : ((.methodLink "BundlesOfBidsLaw" (143 : Nat) ({ cls := "BundlesOfBids", name := "lots", desc := "(III)I" } : MethodName)) : Cond) ∈ tbl := tb_4 (i := 150) (by decide +kernel) rfl
theorem tw_871 : ((.instanceMethod ({ cls := "BundlesOfBids", name := "lots", desc := "(III)I" } : MethodName)) : Cond) ∈ tbl := tb_4 (i := 151) (by decide +kernel) rfl
theorem tw_872 : ((.selects "BundlesOfBids" ({ cls := "BundlesOfBids", name := "lots", desc := "(III)I" } : MethodName) ({ cls := "BundlesOfBids", name := "lots", desc := "(III)I" } : MethodName)) : Cond) ∈ tbl := tb_4 (i := 152) (by decide +kernel) rfl
theorem tw_873 : ((.code ({ cls := "BundlesOfBids", name := "lots", desc := "(III)I" } : MethodName) prog_1_method_33_code (8 : Nat) (some FieldType.int)) : Cond) ∈ tbl := tb_4 (i := 153) (by decide +kernel) rfl
theorem tw_874 : ((.methodLink "BundlesOfBids" (307 : Nat) ({ cls := "BundlesOfBids", name := "nextSeed", desc := "(I)I" } : MethodName)) : Cond) ∈ tbl := tb_4 (i := 154) (by decide +kernel) rfl
theorem tw_875 : ((.static ({ cls := "BundlesOfBids", name := "nextSeed", desc := "(I)I" } : MethodName)) : Cond) ∈ tbl := tb_4 (i := 155) (by decide +kernel) rfl
theorem tw_876 : ((.code ({ cls := "BundlesOfBids", name := "nextSeed", desc := "(I)I" } : MethodName) prog_1_method_55_code (1 : Nat) (some FieldType.int)) : Cond) ∈ tbl := tb_4 (i := 156) (by decide +kernel) rfl
theorem tw_877 : ((.constant "BundlesOfBids" (334 : Nat) (1664525 : Int32)) : Cond) ∈ tbl := tb_4 (i := 157) (by decide +kernel) rfl
theorem tw_878 : ((.constant "BundlesOfBids" (335 : Nat) (1013904223 : Int32)) : Cond) ∈ tbl := tb_4 (i := 158) (by decide +kernel) rfl
theorem tw_879 : ((.methodLink "BundlesOfBids" (310 : Nat) ({ cls := "BundlesOfBids", name := "drawn", desc := "(II)I" } : MethodName)) : Cond) ∈ tbl := tb_4 (i := 159) (by decide +kernel) rfl
theorem tw_880 : ((.static ({ cls := "BundlesOfBids", name := "drawn", desc := "(II)I" } : MethodName)) : Cond) ∈ tbl := tb_4 (i := 160) (by decide +kernel) rfl
theorem tw_881 : ((.code ({ cls := "BundlesOfBids", name := "drawn", desc := "(II)I" } : MethodName) prog_1_method_56_code (2 : Nat) (some FieldType.int)) : Cond) ∈ tbl := tb_4 (i := 161) (by decide +kernel) rfl
theorem tw_882 : ((.constant "BundlesOfBids" (336 : Nat) (2147483647 : Int32)) : Cond) ∈ tbl := tb_4 (i := 162) (by decide +kernel) rfl
theorem tw_883 : ((.methodLink "BundlesOfBidsLaw" (147 : Nat) ({ cls := "BundlesOfBids", name := "image", desc := "()I" } : MethodName)) : Cond) ∈ tbl := tb_4 (i := 163) (by decide +kernel) rfl
theorem tw_884 : ((.instanceMethod ({ cls := "BundlesOfBids", name := "image", desc := "()I" } : MethodName)) : Cond) ∈ tbl := tb_4 (i := 164) (by decide +kernel) rfl
theorem tw_885 : ((.selects "BundlesOfBids" ({ cls := "BundlesOfBids", name := "image", desc := "()I" } : MethodName) ({ cls := "BundlesOfBids", name := "image", desc := "()I" } : MethodName)) : Cond) ∈ tbl := tb_4 (i := 165) (by decide +kernel) rfl
theorem tw_886 : ((.code ({ cls := "BundlesOfBids", name := "image", desc := "()I" } : MethodName) prog_1_method_34_code (1 : Nat) (some FieldType.int)) : Cond) ∈ tbl := tb_4 (i := 166) (by decide +kernel) rfl
theorem tw_887 : ((.methodLink "BundlesOfBidsLaw" (151 : Nat) ({ cls := "BundlesOfBids", name := "on", desc := "()I" } : MethodName)) : Cond) ∈ tbl := tb_4 (i := 167) (by decide +kernel) rfl
theorem tw_888 : ((.instanceMethod ({ cls := "BundlesOfBids", name := "on", desc := "()I" } : MethodName)) : Cond) ∈ tbl := tb_4 (i := 168) (by decide +kernel) rfl
theorem tw_889 : ((.selects "BundlesOfBids" ({ cls := "BundlesOfBids", name := "on", desc := "()I" } : MethodName) ({ cls := "BundlesOfBids", name := "on", desc := "()I" } : MethodName)) : Cond) ∈ tbl := tb_4 (i := 169) (by decide +kernel) rfl
theorem tw_890 : ((.code ({ cls := "BundlesOfBids", name := "on", desc := "()I" } : MethodName) prog_1_method_35_code (1 : Nat) (some FieldType.int)) : Cond) ∈ tbl := tb_4 (i := 170) (by decide +kernel) rfl
theorem tw_891 : ((.methodLink "BundlesOfBidsLaw" (155 : Nat) ({ cls := "BundlesOfBids", name := "count", desc := "(I)I" } : MethodName)) : Cond) ∈ tbl := tb_4 (i := 171) (by decide +kernel) rfl
theorem tw_892 : ((.instanceMethod ({ cls := "BundlesOfBids", name := "count", desc := "(I)I" } : MethodName)) : Cond) ∈ tbl := tb_4 (i := 172) (by decide +kernel) rfl
theorem tw_893 : ((.selects "BundlesOfBids" ({ cls := "BundlesOfBids", name := "count", desc := "(I)I" } : MethodName) ({ cls := "BundlesOfBids", name := "count", desc := "(I)I" } : MethodName)) : Cond) ∈ tbl := tb_4 (i := 173) (by decide +kernel) rfl
theorem tw_894 : ((.code ({ cls := "BundlesOfBids", name := "count", desc := "(I)I" } : MethodName) prog_1_method_36_code (2 : Nat) (some FieldType.int)) : Cond) ∈ tbl := tb_4 (i := 174) (by decide +kernel) rfl
theorem tn_895 : ((.methodLinkNest "BundlesOfBids" (316 : Nat) ({ cls := "BundlesOfBids$Sale", name := "reservesBut", desc := "(I)I" } : MethodName) "BundlesOfBids") : Cond) ∈ tbn := tn__4 (i := 175) (by decide +kernel) rfl
theorem tw_896 : ((.classLink "BundlesOfBidsLaw" (10 : Nat) "BundlesOfBidsModel") : Cond) ∈ tbl := tb_4 (i := 176) (by decide +kernel) rfl
theorem tw_897 : ((.instantiable "BundlesOfBidsModel" (31 : Nat)) : Cond) ∈ tbl := tb_4 (i := 177) (by decide +kernel) rfl
theorem tw_898 : ((.methodLink "BundlesOfBidsLaw" (12 : Nat) ({ cls := "BundlesOfBidsModel", name := "<init>", desc := "()V" } : MethodName)) : Cond) ∈ tbl := tb_4 (i := 178) (by decide +kernel) rfl
theorem tw_899 : ((.instanceMethod ({ cls := "BundlesOfBidsModel", name := "<init>", desc := "()V" } : MethodName)) : Cond) ∈ tbl := tb_4 (i := 179) (by decide +kernel) rfl
theorem tw_900 : ((.code ({ cls := "BundlesOfBidsModel", name := "<init>", desc := "()V" } : MethodName) prog_9_method_1_code (1 : Nat) (Option.none : Option FieldType)) : Cond) ∈ tbl := tb_4 (i := 180) (by decide +kernel) rfl
theorem tw_901 : ((.methodLink "BundlesOfBidsModel" (1 : Nat) ({ cls := "java/lang/Object", name := "<init>", desc := "()V" } : MethodName)) : Cond) ∈ tbl := tb_4 (i := 181) (by decide +kernel) rfl
theorem tw_902 : ((.classLink "BundlesOfBidsModel" (47 : Nat) "java/lang/String") : Cond) ∈ tbl := tb_4 (i := 182) (by decide +kernel) rfl
theorem tw_914 : ((.fieldLink "BundlesOfBidsModel" (9 : Nat) "BundlesOfBidsModel" "reserve" "[I") : Cond) ∈ tbl := tb_4 (i := 194) (by decide +kernel) rfl
theorem tw_915 : ((.fieldLink "BundlesOfBidsModel" (13 : Nat) "BundlesOfBidsModel" "kind" "[I") : Cond) ∈ tbl := tb_4 (i := 195) (by decide +kernel) rfl
theorem tw_916 : ((.fieldLink "BundlesOfBidsModel" (16 : Nat) "BundlesOfBidsModel" "figure" "[I") : Cond) ∈ tbl := tb_4 (i := 196) (by decide +kernel) rfl
theorem tw_917 : ((.fieldLink "BundlesOfBidsModel" (19 : Nat) "BundlesOfBidsModel" "bidder" "[I") : Cond) ∈ tbl := tb_4 (i := 197) (by decide +kernel) rfl
theorem tw_918 : ((.fieldLink "BundlesOfBidsModel" (22 : Nat) "BundlesOfBidsModel" "set" "[I") : Cond) ∈ tbl := tb_4 (i := 198) (by decide +kernel) rfl
theorem tw_919 : ((.fieldLink "BundlesOfBidsModel" (25 : Nat) "BundlesOfBidsModel" "price" "[I") : Cond) ∈ tbl := tb_4 (i := 199) (by decide +kernel) rfl
theorem tw_920 : ((.fieldLink "BundlesOfBidsModel" (93 : Nat) "BundlesOfBidsModel" "many" "I") : Cond) ∈ tbl := tb_4 (i := 200) (by decide +kernel) rfl
theorem tw_921 : ((.fieldLink "BundlesOfBidsModel" (127 : Nat) "BundlesOfBidsModel" "on" "I") : Cond) ∈ tbl := tb_4 (i := 201) (by decide +kernel) rfl
theorem tw_922 : ((.fieldLink "BundlesOfBidsModel" (28 : Nat) "BundlesOfBidsModel" "refusals" "[I") : Cond) ∈ tbl := tb_4 (i := 202) (by decide +kernel) rfl
theorem tw_923 : ((.fieldLink "BundlesOfBidsModel" (31 : Nat) "BundlesOfBidsModel" "worth" "[I") : Cond) ∈ tbl := tb_4 (i := 203) (by decide +kernel) rfl
theorem tw_924 : ((.fieldLink "BundlesOfBidsModel" (34 : Nat) "BundlesOfBidsModel" "taken" "[I") : Cond) ∈ tbl := tb_4 (i := 204) (by decide +kernel) rfl
theorem tw_925 : ((.fieldLink "BundlesOfBidsModel" (37 : Nat) "BundlesOfBidsModel" "ownOf" "[I") : Cond) ∈ tbl := tb_4 (i := 205) (by decide +kernel) rfl
theorem tw_926 : ((.fieldLink "BundlesOfBidsModel" (89 : Nat) "BundlesOfBidsModel" "stale" "Z") : Cond) ∈ tbl := tb_4 (i := 206) (by decide +kernel) rfl
theorem tw_927 : ((.fieldLink "BundlesOfBidsModel" (40 : Nat) "BundlesOfBidsModel" "shill" "I") : Cond) ∈ tbl := tb_4 (i := 207) (by decide +kernel) rfl
theorem tw_928 : ((.fieldLink "BundlesOfBidsModel" (44 : Nat) "BundlesOfBidsModel" "letters" "[I") : Cond) ∈ tbl := tb_4 (i := 208) (by decide +kernel) rfl
theorem tw_929 : ((.fieldLink "BundlesOfBidsModel" (139 : Nat) "BundlesOfBidsModel" "typed" "I") : Cond) ∈ tbl := tb_4 (i := 209) (by decide +kernel) rfl
theorem tw_930 : ((.fieldLink "BundlesOfBidsModel" (142 : Nat) "BundlesOfBidsModel" "place" "I") : Cond) ∈ tbl := tb_4 (i := 210) (by decide +kernel) rfl
theorem tw_931 : ((.fieldLink "BundlesOfBidsModel" (57 : Nat) "BundlesOfBidsModel" "words" "[Ljava/lang/String;") : Cond) ∈ tbl := tb_4 (i := 211) (by decide +kernel) rfl
theorem tw_932 : ((.fieldLink "BundlesOfBidsModel" (71 : Nat) "BundlesOfBidsModel" "parts" "[Ljava/lang/String;") : Cond) ∈ tbl := tb_4 (i := 212) (by decide +kernel) rfl
theorem tw_933 : ((.fieldLink "BundlesOfBidsModel" (161 : Nat) "BundlesOfBidsModel" "number" "I") : Cond) ∈ tbl := tb_4 (i := 213) (by decide +kernel) rfl
theorem tw_934 : ((.fieldLink "BundlesOfBidsModel" (167 : Nat) "BundlesOfBidsModel" "isOdd" "Z") : Cond) ∈ tbl := tb_4 (i := 214) (by decide +kernel) rfl
theorem tw_935 : ((.fieldLink "BundlesOfBidsModel" (74 : Nat) "BundlesOfBidsModel" "told" "[I") : Cond) ∈ tbl := tb_4 (i := 215) (by decide +kernel) rfl
theorem tw_936 : ((.fieldLink "BundlesOfBidsModel" (77 : Nat) "BundlesOfBidsModel" "order" "[I") : Cond) ∈ tbl := tb_4 (i := 216) (by decide +kernel) rfl
theorem tw_937 : ((.fieldLink "BundlesOfBidsModel" (205 : Nat) "BundlesOfBidsModel" "ordered" "I") : Cond) ∈ tbl := tb_4 (i := 217) (by decide +kernel) rfl
theorem tw_938 : ((.fieldLink "BundlesOfBidsModel" (80 : Nat) "BundlesOfBidsModel" "won" "[I") : Cond) ∈ tbl := tb_4 (i := 218) (by decide +kernel) rfl
theorem tw_939 : ((.fieldLink "BundlesOfBidsModel" (83 : Nat) "BundlesOfBidsModel" "paid" "[I") : Cond) ∈ tbl := tb_4 (i := 219) (by decide +kernel) rfl
theorem tw_940 : ((.fieldLink "BundlesOfBidsModel" (259 : Nat) "BundlesOfBidsModel" "lifts" "I") : Cond) ∈ tbl := tb_4 (i := 220) (by decide +kernel) rfl
theorem tw_941 : ((.fieldLink "BundlesOfBidsModel" (86 : Nat) "BundlesOfBidsModel" "row" "[I") : Cond) ∈ tbl := tb_4 (i := 221) (by decide +kernel) rfl
theorem tw_942 : ((.fieldLink "BundlesOfBidsModel" (300 : Nat) "BundlesOfBidsModel" "rows" "I") : Cond) ∈ tbl := tb_4 (i := 222) (by decide +kernel) rfl
theorem tw_943 : ((.fieldLink "BundlesOfBidsModel" (306 : Nat) "BundlesOfBidsModel" "draws" "I") : Cond) ∈ tbl := tb_4 (i := 223) (by decide +kernel) rfl
theorem tw_944 : ((.fieldLink "BundlesOfBidsModel" (315 : Nat) "BundlesOfBidsModel" "kept" "[I") : Cond) ∈ tbl := tb_4 (i := 224) (by decide +kernel) rfl
theorem tw_1007 : ((.superclass "BundlesOfBidsModel" "java/lang/Object") : Cond) ∈ tbl := tb_5 (i := 47) (by decide +kernel) rfl
theorem tw_1008 : ((.methodLink "BundlesOfBidsLaw" (17 : Nat) ({ cls := "BundlesOfBidsModel", name := "letter", desc := "(I)I" } : MethodName)) : Cond) ∈ tbl := tb_5 (i := 48) (by decide +kernel) rfl
theorem tw_1009 : ((.instanceMethod ({ cls := "BundlesOfBidsModel", name := "letter", desc := "(I)I" } : MethodName)) : Cond) ∈ tbl := tb_5 (i := 49) (by decide +kernel) rfl
theorem tw_1010 : ((.selects "BundlesOfBidsModel" ({ cls := "BundlesOfBidsModel", name := "letter", desc := "(I)I" } : MethodName) ({ cls := "BundlesOfBidsModel", name := "letter", desc := "(I)I" } : MethodName)) : Cond) ∈ tbl := tb_5 (i := 50) (by decide +kernel) rfl
theorem tw_1011 : ((.code ({ cls := "BundlesOfBidsModel", name := "letter", desc := "(I)I" } : MethodName) prog_9_method_17_code (2 : Nat) (some FieldType.int)) : Cond) ∈ tbl := tb_5 (i := 51) (by decide +kernel) rfl
theorem tw_1012 : ((.methodLink "BundlesOfBidsModel" (136 : Nat) ({ cls := "BundlesOfBidsModel", name := "refuses", desc := "(I)I" } : MethodName)) : Cond) ∈ tbl := tb_5 (i := 52) (by decide +kernel) rfl
theorem tw_1014 : ((.instanceMethod ({ cls := "BundlesOfBidsModel", name := "refuses", desc := "(I)I" } : MethodName)) : Cond) ∈ tbl := tb_5 (i := 54) (by decide +kernel) rfl
theorem tw_1015 : ((.code ({ cls := "BundlesOfBidsModel", name := "refuses", desc := "(I)I" } : MethodName) prog_9_method_2_code (2 : Nat) (some FieldType.int)) : Cond) ∈ tbl := tb_5 (i := 55) (by decide +kernel) rfl
theorem tw_1016 : ((.methodLink "BundlesOfBidsLaw" (22 : Nat) ({ cls := "BundlesOfBidsModel", name := "auction", desc := "()I" } : MethodName)) : Cond) ∈ tbl := tb_5 (i := 56) (by decide +kernel) rfl
theorem tw_1017 : ((.instanceMethod ({ cls := "BundlesOfBidsModel", name := "auction", desc := "()I" } : MethodName)) : Cond) ∈ tbl := tb_5 (i := 57) (by decide +kernel) rfl
theorem tw_1018 : ((.selects "BundlesOfBidsModel" ({ cls := "BundlesOfBidsModel", name := "auction", desc := "()I" } : MethodName) ({ cls := "BundlesOfBidsModel", name := "auction", desc := "()I" } : MethodName)) : Cond) ∈ tbl := tb_5 (i := 58) (by decide +kernel) rfl
theorem tw_1019 : ((.code ({ cls := "BundlesOfBidsModel", name := "auction", desc := "()I" } : MethodName) prog_9_method_27_code (8 : Nat) (some FieldType.int)) : Cond) ∈ tbl := tb_5 (i := 59) (by decide +kernel) rfl
theorem tw_1020 : ((.methodLink "BundlesOfBidsModel" (180 : Nat) ({ cls := "BundlesOfBidsModel", name := "rowNow", desc := "()[I" } : MethodName)) : Cond) ∈ tbl := tb_5 (i := 60) (by decide +kernel) rfl
theorem tw_1022 : ((.instanceMethod ({ cls := "BundlesOfBidsModel", name := "rowNow", desc := "()[I" } : MethodName)) : Cond) ∈ tbl := tb_5 (i := 62) (by decide +kernel) rfl
theorem tw_1023 : ((.code ({ cls := "BundlesOfBidsModel", name := "rowNow", desc := "()[I" } : MethodName) prog_9_method_29_code (4 : Nat) (Option.some (FieldType.array FieldType.int))) : Cond) ∈ tbl := tb_5 (i := 63) (by decide +kernel) rfl
theorem tw_1024 : ((.methodLink "BundlesOfBidsModel" (184 : Nat) ({ cls := "BundlesOfBidsModel", name := "statement", desc := "()I" } : MethodName)) : Cond) ∈ tbl := tb_5 (i := 64) (by decide +kernel) rfl
theorem tw_1026 : ((.instanceMethod ({ cls := "BundlesOfBidsModel", name := "statement", desc := "()I" } : MethodName)) : Cond) ∈ tbl := tb_5 (i := 66) (by decide +kernel) rfl
theorem tw_1027 : ((.code ({ cls := "BundlesOfBidsModel", name := "statement", desc := "()I" } : MethodName) prog_9_method_24_code (3 : Nat) (some FieldType.int)) : Cond) ∈ tbl := tb_5 (i := 67) (by decide +kernel) rfl
theorem tw_1028 : ((.methodLink "BundlesOfBidsModel" (170 : Nat) ({ cls := "BundlesOfBidsModel", name := "word", desc := "()I" } : MethodName)) : Cond) ∈ tbl := tb_5 (i := 68) (by decide +kernel) rfl
theorem tw_1030 : ((.instanceMethod ({ cls := "BundlesOfBidsModel", name := "word", desc := "()I" } : MethodName)) : Cond) ∈ tbl := tb_5 (i := 70) (by decide +kernel) rfl
theorem tw_1031 : ((.code ({ cls := "BundlesOfBidsModel", name := "word", desc := "()I" } : MethodName) prog_9_method_22_code (3 : Nat) (some FieldType.int)) : Cond) ∈ tbl := tb_5 (i := 71) (by decide +kernel) rfl
theorem tw_1032 : ((.methodLink "BundlesOfBidsModel" (153 : Nat) ({ cls := "BundlesOfBidsModel", name := "isLetter", desc := "()Z" } : MethodName)) : Cond) ∈ tbl := tb_5 (i := 72) (by decide +kernel) rfl
theorem tw_1034 : ((.instanceMethod ({ cls := "BundlesOfBidsModel", name := "isLetter", desc := "()Z" } : MethodName)) : Cond) ∈ tbl := tb_5 (i := 74) (by decide +kernel) rfl
theorem tw_1035 : ((.code ({ cls := "BundlesOfBidsModel", name := "isLetter", desc := "()Z" } : MethodName) prog_9_method_18_code (1 : Nat) (Option.some FieldType.boolean)) : Cond) ∈ tbl := tb_5 (i := 75) (by decide +kernel) rfl
theorem tw_1036 : ((.methodLink "BundlesOfBidsModel" (96 : Nat) ({ cls := "BundlesOfBidsModel", name := "isIn", desc := "(III)Z" } : MethodName)) : Cond) ∈ tbl := tb_5 (i := 76) (by decide +kernel) rfl
theorem tw_1037 : ((.static ({ cls := "BundlesOfBidsModel", name := "isIn", desc := "(III)Z" } : MethodName)) : Cond) ∈ tbl := tb_5 (i := 77) (by decide +kernel) rfl
theorem tw_1038 : ((.code ({ cls := "BundlesOfBidsModel", name := "isIn", desc := "(III)Z" } : MethodName) prog_9_method_3_code (3 : Nat) (Option.some FieldType.boolean)) : Cond) ∈ tbl := tb_5 (i := 78) (by decide +kernel) rfl
theorem tw_1039 : ((.methodLink "BundlesOfBidsModel" (157 : Nat) ({ cls := "BundlesOfBidsModel", name := "isWord", desc := "(Ljava/lang/String;II)Z" } : MethodName)) : Cond) ∈ tbl := tb_5 (i := 79) (by decide +kernel) rfl
theorem tw_1041 : ((.instanceMethod ({ cls := "BundlesOfBidsModel", name := "isWord", desc := "(Ljava/lang/String;II)Z" } : MethodName)) : Cond) ∈ tbl := tb_5 (i := 81) (by decide +kernel) rfl
theorem tw_1042 : ((.code ({ cls := "BundlesOfBidsModel", name := "isWord", desc := "(Ljava/lang/String;II)Z" } : MethodName) prog_9_method_21_code (5 : Nat) (Option.some FieldType.boolean)) : Cond) ∈ tbl := tb_5 (i := 82) (by decide +kernel) rfl
theorem tw_1043 : ((.methodLink "BundlesOfBidsModel" (145 : Nat) ({ cls := "java/lang/String", name := "length", desc := "()I" } : MethodName)) : Cond) ∈ tbl := tb_5 (i := 83) (by decide +kernel) rfl
theorem tw_1044 : ((.methodLink "BundlesOfBidsModel" (149 : Nat) ({ cls := "java/lang/String", name := "charAt", desc := "(I)C" } : MethodName)) : Cond) ∈ tbl := tb_5 (i := 84) (by decide +kernel) rfl
theorem tw_1045 : ((.methodLink "BundlesOfBidsModel" (173 : Nat) ({ cls := "BundlesOfBidsModel", name := "isNext", desc := "(I)Z" } : MethodName)) : Cond) ∈ tbl := tb_5 (i := 85) (by decide +kernel) rfl
theorem tw_1047 : ((.instanceMethod ({ cls := "BundlesOfBidsModel", name := "isNext", desc := "(I)Z" } : MethodName)) : Cond) ∈ tbl := tb_5 (i := 87) (by decide +kernel) rfl
theorem tw_1048 : ((.code ({ cls := "BundlesOfBidsModel", name := "isNext", desc := "(I)Z" } : MethodName) prog_9_method_20_code (2 : Nat) (Option.some FieldType.boolean)) : Cond) ∈ tbl := tb_5 (i := 88) (by decide +kernel) rfl
theorem tw_1049 : ((.methodLink "BundlesOfBidsModel" (177 : Nat) ({ cls := "BundlesOfBidsModel", name := "part", desc := "(I)Z" } : MethodName)) : Cond) ∈ tbl := tb_5 (i := 89) (by decide +kernel) rfl
theorem tw_1051 : ((.instanceMethod ({ cls := "BundlesOfBidsModel", name := "part", desc := "(I)Z" } : MethodName)) : Cond) ∈ tbl := tb_5 (i := 91) (by decide +kernel) rfl
theorem tw_1052 : ((.code ({ cls := "BundlesOfBidsModel", name := "part", desc := "(I)Z" } : MethodName) prog_9_method_23_code (4 : Nat) (Option.some FieldType.boolean)) : Cond) ∈ tbl := tb_5 (i := 92) (by decide +kernel) rfl
theorem tw_1053 : ((.methodLink "BundlesOfBidsModel" (164 : Nat) ({ cls := "BundlesOfBidsModel", name := "isDigit", desc := "()Z" } : MethodName)) : Cond) ∈ tbl := tb_5 (i := 93) (by decide +kernel) rfl
theorem tw_1055 : ((.instanceMethod ({ cls := "BundlesOfBidsModel", name := "isDigit", desc := "()Z" } : MethodName)) : Cond) ∈ tbl := tb_5 (i := 95) (by decide +kernel) rfl
theorem tw_1056 : ((.code ({ cls := "BundlesOfBidsModel", name := "isDigit", desc := "()Z" } : MethodName) prog_9_method_19_code (1 : Nat) (Option.some FieldType.boolean)) : Cond) ∈ tbl := tb_5 (i := 96) (by decide +kernel) rfl
theorem tw_1057 : ((.methodLink "BundlesOfBidsModel" (104 : Nat) ({ cls := "BundlesOfBidsModel", name := "has", desc := "(II)Z" } : MethodName)) : Cond) ∈ tbl := tb_5 (i := 97) (by decide +kernel) rfl
theorem tw_1058 : ((.static ({ cls := "BundlesOfBidsModel", name := "has", desc := "(II)Z" } : MethodName)) : Cond) ∈ tbl := tb_5 (i := 98) (by decide +kernel) rfl
theorem tw_1059 : ((.code ({ cls := "BundlesOfBidsModel", name := "has", desc := "(II)Z" } : MethodName) prog_9_method_6_code (2 : Nat) (Option.some FieldType.boolean)) : Cond) ∈ tbl := tb_5 (i := 99) (by decide +kernel) rfl
theorem tw_1060 : ((.methodLink "BundlesOfBidsModel" (187 : Nat) ({ cls := "BundlesOfBidsModel", name := "faults", desc := "(I[I)I" } : MethodName)) : Cond) ∈ tbl := tb_5 (i := 100) (by decide +kernel) rfl
theorem tw_1062 : ((.instanceMethod ({ cls := "BundlesOfBidsModel", name := "faults", desc := "(I[I)I" } : MethodName)) : Cond) ∈ tbl := tb_5 (i := 102) (by decide +kernel) rfl
theorem tw_1063 : ((.code ({ cls := "BundlesOfBidsModel", name := "faults", desc := "(I[I)I" } : MethodName) prog_9_method_28_code (3 : Nat) (some FieldType.int)) : Cond) ∈ tbl := tb_5 (i := 103) (by decide +kernel) rfl
theorem tw_1064 : ((.methodLink "BundlesOfBidsModel" (198 : Nat) ({ cls := "BundlesOfBidsModel", name := "layBack", desc := "([I)V" } : MethodName)) : Cond) ∈ tbl := tb_5 (i := 104) (by decide +kernel) rfl
theorem tw_1066 : ((.instanceMethod ({ cls := "BundlesOfBidsModel", name := "layBack", desc := "([I)V" } : MethodName)) : Cond) ∈ tbl := tb_5 (i := 106) (by decide +kernel) rfl
theorem tw_1067 : ((.code ({ cls := "BundlesOfBidsModel", name := "layBack", desc := "([I)V" } : MethodName) prog_9_method_30_code (4 : Nat) (Option.none : Option FieldType)) : Cond) ∈ tbl := tb_5 (i := 107) (by decide +kernel) rfl
theorem tw_1068 : ((.methodLink "BundlesOfBidsModel" (191 : Nat) ({ cls := "BundlesOfBidsModel", name := "fits", desc := "(I)Z" } : MethodName)) : Cond) ∈ tbl := tb_5 (i := 108) (by decide +kernel) rfl
theorem tw_1070 : ((.instanceMethod ({ cls := "BundlesOfBidsModel", name := "fits", desc := "(I)Z" } : MethodName)) : Cond) ∈ tbl := tb_5 (i := 110) (by decide +kernel) rfl
theorem tw_1071 : ((.code ({ cls := "BundlesOfBidsModel", name := "fits", desc := "(I)Z" } : MethodName) prog_9_method_25_code (2 : Nat) (Option.some FieldType.boolean)) : Cond) ∈ tbl := tb_5 (i := 111) (by decide +kernel) rfl
theorem tw_1072 : ((.methodLink "BundlesOfBidsModel" (194 : Nat) ({ cls := "BundlesOfBidsModel", name := "comes", desc := "(I)V" } : MethodName)) : Cond) ∈ tbl := tb_5 (i := 112) (by decide +kernel) rfl
theorem tw_1074 : ((.instanceMethod ({ cls := "BundlesOfBidsModel", name := "comes", desc := "(I)V" } : MethodName)) : Cond) ∈ tbl := tb_5 (i := 114) (by decide +kernel) rfl
theorem tw_1075 : ((.code ({ cls := "BundlesOfBidsModel", name := "comes", desc := "(I)V" } : MethodName) prog_9_method_26_code (2 : Nat) (Option.none : Option FieldType)) : Cond) ∈ tbl := tb_5 (i := 115) (by decide +kernel) rfl
theorem tw_1076 : ((.methodLink "BundlesOfBidsLaw" (27 : Nat) ({ cls := "BundlesOfBidsModel", name := "bids", desc := "(III)I" } : MethodName)) : Cond) ∈ tbl := tb_5 (i := 116) (by decide +kernel) rfl
theorem tw_1077 : ((.instanceMethod ({ cls := "BundlesOfBidsModel", name := "bids", desc := "(III)I" } : MethodName)) : Cond) ∈ tbl := tb_5 (i := 117) (by decide +kernel) rfl
theorem tw_1078 : ((.selects "BundlesOfBidsModel" ({ cls := "BundlesOfBidsModel", name := "bids", desc := "(III)I" } : MethodName) ({ cls := "BundlesOfBidsModel", name := "bids", desc := "(III)I" } : MethodName)) : Cond) ∈ tbl := tb_5 (i := 118) (by decide +kernel) rfl
theorem tw_1079 : ((.code ({ cls := "BundlesOfBidsModel", name := "bids", desc := "(III)I" } : MethodName) prog_9_method_31_code (4 : Nat) (some FieldType.int)) : Cond) ∈ tbl := tb_5 (i := 119) (by decide +kernel) rfl
theorem tw_1080 : ((.methodLink "BundlesOfBidsLaw" (31 : Nat) ({ cls := "BundlesOfBidsModel", name := "turns", desc := "(I)I" } : MethodName)) : Cond) ∈ tbl := tb_5 (i := 120) (by decide +kernel) rfl
theorem tw_1081 : ((.instanceMethod ({ cls := "BundlesOfBidsModel", name := "turns", desc := "(I)I" } : MethodName)) : Cond) ∈ tbl := tb_5 (i := 121) (by decide +kernel) rfl
theorem tw_1082 : ((.selects "BundlesOfBidsModel" ({ cls := "BundlesOfBidsModel", name := "turns", desc := "(I)I" } : MethodName) ({ cls := "BundlesOfBidsModel", name := "turns", desc := "(I)I" } : MethodName)) : Cond) ∈ tbl := tb_5 (i := 122) (by decide +kernel) rfl
theorem tw_1083 : ((.code ({ cls := "BundlesOfBidsModel", name := "turns", desc := "(I)I" } : MethodName) prog_9_method_32_code (2 : Nat) (some FieldType.int)) : Cond) ∈ tbl := tb_5 (i := 123) (by decide +kernel) rfl
theorem tw_1084 : ((.methodLink "BundlesOfBidsModel" (202 : Nat) ({ cls := "BundlesOfBidsModel", name := "isBid", desc := "(I)Z" } : MethodName)) : Cond) ∈ tbl := tb_5 (i := 124) (by decide +kernel) rfl
theorem tw_1086 : ((.instanceMethod ({ cls := "BundlesOfBidsModel", name := "isBid", desc := "(I)Z" } : MethodName)) : Cond) ∈ tbl := tb_5 (i := 126) (by decide +kernel) rfl
theorem tw_1087 : ((.code ({ cls := "BundlesOfBidsModel", name := "isBid", desc := "(I)Z" } : MethodName) prog_9_method_4_code (2 : Nat) (Option.some FieldType.boolean)) : Cond) ∈ tbl := tb_5 (i := 127) (by decide +kernel) rfl
theorem tw_1088 : ((.methodLink "BundlesOfBidsLaw" (36 : Nat) ({ cls := "BundlesOfBidsModel", name := "price", desc := "(II)I" } : MethodName)) : Cond) ∈ tbl := tb_5 (i := 128) (by decide +kernel) rfl
theorem tw_1089 : ((.instanceMethod ({ cls := "BundlesOfBidsModel", name := "price", desc := "(II)I" } : MethodName)) : Cond) ∈ tbl := tb_5 (i := 129) (by decide +kernel) rfl
theorem tw_1090 : ((.selects "BundlesOfBidsModel" ({ cls := "BundlesOfBidsModel", name := "price", desc := "(II)I" } : MethodName) ({ cls := "BundlesOfBidsModel", name := "price", desc := "(II)I" } : MethodName)) : Cond) ∈ tbl := tb_5 (i := 130) (by decide +kernel) rfl
theorem tw_1091 : ((.code ({ cls := "BundlesOfBidsModel", name := "price", desc := "(II)I" } : MethodName) prog_9_method_33_code (4 : Nat) (some FieldType.int)) : Cond) ∈ tbl := tb_5 (i := 131) (by decide +kernel) rfl
theorem tw_1092 : ((.methodLink "BundlesOfBidsLaw" (40 : Nat) ({ cls := "BundlesOfBidsModel", name := "kind", desc := "(III)I" } : MethodName)) : Cond) ∈ tbl := tb_5 (i := 132) (by decide +kernel) rfl
theorem tw_1093 : ((.instanceMethod ({ cls := "BundlesOfBidsModel", name := "kind", desc := "(III)I" } : MethodName)) : Cond) ∈ tbl := tb_5 (i := 133) (by decide +kernel) rfl
theorem tw_1094 : ((.selects "BundlesOfBidsModel" ({ cls := "BundlesOfBidsModel", name := "kind", desc := "(III)I" } : MethodName) ({ cls := "BundlesOfBidsModel", name := "kind", desc := "(III)I" } : MethodName)) : Cond) ∈ tbl := tb_5 (i := 134) (by decide +kernel) rfl
theorem tw_1095 : ((.code ({ cls := "BundlesOfBidsModel", name := "kind", desc := "(III)I" } : MethodName) prog_9_method_34_code (5 : Nat) (some FieldType.int)) : Cond) ∈ tbl := tb_5 (i := 135) (by decide +kernel) rfl
theorem tw_1096 : ((.methodLink "BundlesOfBidsLaw" (44 : Nat) ({ cls := "BundlesOfBidsModel", name := "keep", desc := "(II)I" } : MethodName)) : Cond) ∈ tbl := tb_5 (i := 136) (by decide +kernel) rfl
theorem tw_1097 : ((.instanceMethod ({ cls := "BundlesOfBidsModel", name := "keep", desc := "(II)I" } : MethodName)) : Cond) ∈ tbl := tb_5 (i := 137) (by decide +kernel) rfl
theorem tw_1098 : ((.selects "BundlesOfBidsModel" ({ cls := "BundlesOfBidsModel", name := "keep", desc := "(II)I" } : MethodName) ({ cls := "BundlesOfBidsModel", name := "keep", desc := "(II)I" } : MethodName)) : Cond) ∈ tbl := tb_5 (i := 138) (by decide +kernel) rfl
theorem tw_1099 : ((.code ({ cls := "BundlesOfBidsModel", name := "keep", desc := "(II)I" } : MethodName) prog_9_method_35_code (4 : Nat) (some FieldType.int)) : Cond) ∈ tbl := tb_5 (i := 139) (by decide +kernel) rfl
theorem tw_1100 : ((.methodLink "BundlesOfBidsLaw" (48 : Nat) ({ cls := "BundlesOfBidsModel", name := "bid", desc := "(II)I" } : MethodName)) : Cond) ∈ tbl := tb_5 (i := 140) (by decide +kernel) rfl
theorem tw_1101 : ((.instanceMethod ({ cls := "BundlesOfBidsModel", name := "bid", desc := "(II)I" } : MethodName)) : Cond) ∈ tbl := tb_5 (i := 141) (by decide +kernel) rfl
theorem tw_1102 : ((.selects "BundlesOfBidsModel" ({ cls := "BundlesOfBidsModel", name := "bid", desc := "(II)I" } : MethodName) ({ cls := "BundlesOfBidsModel", name := "bid", desc := "(II)I" } : MethodName)) : Cond) ∈ tbl := tb_5 (i := 142) (by decide +kernel) rfl
theorem tw_1103 : ((.code ({ cls := "BundlesOfBidsModel", name := "bid", desc := "(II)I" } : MethodName) prog_9_method_40_code (3 : Nat) (some FieldType.int)) : Cond) ∈ tbl := tb_5 (i := 143) (by decide +kernel) rfl
theorem tw_1104 : ((.methodLink "BundlesOfBidsModel" (219 : Nat) ({ cls := "BundlesOfBidsModel", name := "winnersNow", desc := "()I" } : MethodName)) : Cond) ∈ tbl := tb_5 (i := 144) (by decide +kernel) rfl
theorem tw_1106 : ((.instanceMethod ({ cls := "BundlesOfBidsModel", name := "winnersNow", desc := "()I" } : MethodName)) : Cond) ∈ tbl := tb_5 (i := 146) (by decide +kernel) rfl
theorem tw_1107 : ((.code ({ cls := "BundlesOfBidsModel", name := "winnersNow", desc := "()I" } : MethodName) prog_9_method_15_code (1 : Nat) (some FieldType.int)) : Cond) ∈ tbl := tb_5 (i := 147) (by decide +kernel) rfl
theorem tw_1108 : ((.methodLink "BundlesOfBidsModel" (133 : Nat) ({ cls := "BundlesOfBidsModel", name := "winnersOf", desc := "(I)I" } : MethodName)) : Cond) ∈ tbl := tb_5 (i := 148) (by decide +kernel) rfl
theorem tw_1110 : ((.instanceMethod ({ cls := "BundlesOfBidsModel", name := "winnersOf", desc := "(I)I" } : MethodName)) : Cond) ∈ tbl := tb_5 (i := 150) (by decide +kernel) rfl
theorem tw_1111 : ((.code ({ cls := "BundlesOfBidsModel", name := "winnersOf", desc := "(I)I" } : MethodName) prog_9_method_14_code (5 : Nat) (some FieldType.int)) : Cond) ∈ tbl := tb_5 (i := 151) (by decide +kernel) rfl
theorem tw_1112 : ((.methodLink "BundlesOfBidsModel" (124 : Nat) ({ cls := "BundlesOfBidsModel", name := "table", desc := "()V" } : MethodName)) : Cond) ∈ tbl := tb_5 (i := 152) (by decide +kernel) rfl
theorem tw_1114 : ((.instanceMethod ({ cls := "BundlesOfBidsModel", name := "table", desc := "()V" } : MethodName)) : Cond) ∈ tbl := tb_5 (i := 154) (by decide +kernel) rfl
theorem tw_1115 : ((.code ({ cls := "BundlesOfBidsModel", name := "table", desc := "()V" } : MethodName) prog_9_method_12_code (1 : Nat) (Option.none : Option FieldType)) : Cond) ∈ tbl := tb_5 (i := 155) (by decide +kernel) rfl
theorem tw_1116 : ((.methodLink "BundlesOfBidsModel" (121 : Nat) ({ cls := "BundlesOfBidsModel", name := "tabulates", desc := "()V" } : MethodName)) : Cond) ∈ tbl := tb_5 (i := 156) (by decide +kernel) rfl
theorem tw_1118 : ((.instanceMethod ({ cls := "BundlesOfBidsModel", name := "tabulates", desc := "()V" } : MethodName)) : Cond) ∈ tbl := tb_5 (i := 158) (by decide +kernel) rfl
theorem tw_1119 : ((.code ({ cls := "BundlesOfBidsModel", name := "tabulates", desc := "()V" } : MethodName) prog_9_method_11_code (4 : Nat) (Option.none : Option FieldType)) : Cond) ∈ tbl := tb_5 (i := 159) (by decide +kernel) rfl
theorem tw_1120 : ((.methodLink "BundlesOfBidsModel" (108 : Nat) ({ cls := "BundlesOfBidsModel", name := "findOwn", desc := "()V" } : MethodName)) : Cond) ∈ tbl := tb_5 (i := 160) (by decide +kernel) rfl
theorem tw_1122 : ((.instanceMethod ({ cls := "BundlesOfBidsModel", name := "findOwn", desc := "()V" } : MethodName)) : Cond) ∈ tbl := tb_5 (i := 162) (by decide +kernel) rfl
theorem tw_1123 : ((.code ({ cls := "BundlesOfBidsModel", name := "findOwn", desc := "()V" } : MethodName) prog_9_method_8_code (2 : Nat) (Option.none : Option FieldType)) : Cond) ∈ tbl := tb_5 (i := 163) (by decide +kernel) rfl
theorem tw_1124 : ((.methodLink "BundlesOfBidsModel" (111 : Nat) ({ cls := "BundlesOfBidsModel", name := "itemsOf", desc := "(I)I" } : MethodName)) : Cond) ∈ tbl := tb_5 (i := 164) (by decide +kernel) rfl
theorem tw_1126 : ((.instanceMethod ({ cls := "BundlesOfBidsModel", name := "itemsOf", desc := "(I)I" } : MethodName)) : Cond) ∈ tbl := tb_5 (i := 166) (by decide +kernel) rfl
theorem tw_1127 : ((.code ({ cls := "BundlesOfBidsModel", name := "itemsOf", desc := "(I)I" } : MethodName) prog_9_method_9_code (4 : Nat) (some FieldType.int)) : Cond) ∈ tbl := tb_5 (i := 167) (by decide +kernel) rfl
theorem tw_1128 : ((.methodLink "BundlesOfBidsModel" (114 : Nat) ({ cls := "BundlesOfBidsModel", name := "mayWin", desc := "(II)Z" } : MethodName)) : Cond) ∈ tbl := tb_5 (i := 168) (by decide +kernel) rfl
theorem tw_1130 : ((.instanceMethod ({ cls := "BundlesOfBidsModel", name := "mayWin", desc := "(II)Z" } : MethodName)) : Cond) ∈ tbl := tb_5 (i := 170) (by decide +kernel) rfl
theorem tw_1131 : ((.code ({ cls := "BundlesOfBidsModel", name := "mayWin", desc := "(II)Z" } : MethodName) prog_9_method_7_code (8 : Nat) (Option.some FieldType.boolean)) : Cond) ∈ tbl := tb_5 (i := 171) (by decide +kernel) rfl
theorem tw_1132 : ((.methodLink "BundlesOfBidsModel" (100 : Nat) ({ cls := "BundlesOfBidsModel", name := "size", desc := "(I)I" } : MethodName)) : Cond) ∈ tbl := tb_5 (i := 172) (by decide +kernel) rfl
theorem tw_1133 : ((.static ({ cls := "BundlesOfBidsModel", name := "size", desc := "(I)I" } : MethodName)) : Cond) ∈ tbl := tb_5 (i := 173) (by decide +kernel) rfl
theorem tw_1134 : ((.code ({ cls := "BundlesOfBidsModel", name := "size", desc := "(I)I" } : MethodName) prog_9_method_5_code (3 : Nat) (some FieldType.int)) : Cond) ∈ tbl := tb_5 (i := 174) (by decide +kernel) rfl
theorem tw_1135 : ((.methodLink "BundlesOfBidsModel" (117 : Nat) ({ cls := "BundlesOfBidsModel", name := "worthOf", desc := "(II)I" } : MethodName)) : Cond) ∈ tbl := tb_5 (i := 175) (by decide +kernel) rfl
theorem tw_1137 : ((.instanceMethod ({ cls := "BundlesOfBidsModel", name := "worthOf", desc := "(II)I" } : MethodName)) : Cond) ∈ tbl := tb_5 (i := 177) (by decide +kernel) rfl
theorem tw_1138 : ((.code ({ cls := "BundlesOfBidsModel", name := "worthOf", desc := "(II)I" } : MethodName) prog_9_method_10_code (5 : Nat) (some FieldType.int)) : Cond) ∈ tbl := tb_5 (i := 178) (by decide +kernel) rfl
theorem tw_1139 : ((.methodLink "BundlesOfBidsModel" (130 : Nat) ({ cls := "BundlesOfBidsModel", name := "isAhead", desc := "(II)Z" } : MethodName)) : Cond) ∈ tbl := tb_5 (i := 179) (by decide +kernel) rfl
theorem tw_1141 : ((.instanceMethod ({ cls := "BundlesOfBidsModel", name := "isAhead", desc := "(II)Z" } : MethodName)) : Cond) ∈ tbl := tb_5 (i := 181) (by decide +kernel) rfl
theorem tw_1142 : ((.code ({ cls := "BundlesOfBidsModel", name := "isAhead", desc := "(II)Z" } : MethodName) prog_9_method_13_code (4 : Nat) (Option.some FieldType.boolean)) : Cond) ∈ tbl := tb_5 (i := 182) (by decide +kernel) rfl
theorem tw_1143 : ((.methodLink "BundlesOfBidsModel" (222 : Nat) ({ cls := "BundlesOfBidsModel", name := "placeOf", desc := "(I)I" } : MethodName)) : Cond) ∈ tbl := tb_5 (i := 183) (by decide +kernel) rfl
theorem tw_1145 : ((.instanceMethod ({ cls := "BundlesOfBidsModel", name := "placeOf", desc := "(I)I" } : MethodName)) : Cond) ∈ tbl := tb_5 (i := 185) (by decide +kernel) rfl
theorem tw_1146 : ((.code ({ cls := "BundlesOfBidsModel", name := "placeOf", desc := "(I)I" } : MethodName) prog_9_method_37_code (3 : Nat) (some FieldType.int)) : Cond) ∈ tbl := tb_5 (i := 186) (by decide +kernel) rfl
theorem tw_1147 : ((.methodLink "BundlesOfBidsModel" (208 : Nat) ({ cls := "BundlesOfBidsModel", name := "findOrder", desc := "()V" } : MethodName)) : Cond) ∈ tbl := tb_5 (i := 187) (by decide +kernel) rfl
theorem tw_1149 : ((.instanceMethod ({ cls := "BundlesOfBidsModel", name := "findOrder", desc := "()V" } : MethodName)) : Cond) ∈ tbl := tb_5 (i := 189) (by decide +kernel) rfl
theorem tw_1150 : ((.code ({ cls := "BundlesOfBidsModel", name := "findOrder", desc := "()V" } : MethodName) prog_9_method_36_code (3 : Nat) (Option.none : Option FieldType)) : Cond) ∈ tbl := tb_5 (i := 190) (by decide +kernel) rfl
theorem tw_1151 : ((.methodLink "BundlesOfBidsLaw" (52 : Nat) ({ cls := "BundlesOfBidsModel", name := "bidder", desc := "(II)I" } : MethodName)) : Cond) ∈ tbl := tb_5 (i := 191) (by decide +kernel) rfl
theorem tw_1152 : ((.instanceMethod ({ cls := "BundlesOfBidsModel", name := "bidder", desc := "(II)I" } : MethodName)) : Cond) ∈ tbl := tb_5 (i := 192) (by decide +kernel) rfl
theorem tw_1153 : ((.selects "BundlesOfBidsModel" ({ cls := "BundlesOfBidsModel", name := "bidder", desc := "(II)I" } : MethodName) ({ cls := "BundlesOfBidsModel", name := "bidder", desc := "(II)I" } : MethodName)) : Cond) ∈ tbl := tb_5 (i := 193) (by decide +kernel) rfl
theorem tw_1154 : ((.code ({ cls := "BundlesOfBidsModel", name := "bidder", desc := "(II)I" } : MethodName) prog_9_method_44_code (4 : Nat) (some FieldType.int)) : Cond) ∈ tbl := tb_5 (i := 194) (by decide +kernel) rfl
theorem tw_1155 : ((.methodLink "BundlesOfBidsModel" (231 : Nat) ({ cls := "BundlesOfBidsModel", name := "ownNow", desc := "(I)I" } : MethodName)) : Cond) ∈ tbl := tb_5 (i := 195) (by decide +kernel) rfl
theorem tw_1157 : ((.instanceMethod ({ cls := "BundlesOfBidsModel", name := "ownNow", desc := "(I)I" } : MethodName)) : Cond) ∈ tbl := tb_5 (i := 197) (by decide +kernel) rfl
theorem tw_1158 : ((.code ({ cls := "BundlesOfBidsModel", name := "ownNow", desc := "(I)I" } : MethodName) prog_9_method_41_code (2 : Nat) (some FieldType.int)) : Cond) ∈ tbl := tb_5 (i := 198) (by decide +kernel) rfl
theorem tw_1159 : ((.methodLink "BundlesOfBidsModel" (228 : Nat) ({ cls := "BundlesOfBidsModel", name := "pricesOf", desc := "(I)I" } : MethodName)) : Cond) ∈ tbl := tb_5 (i := 199) (by decide +kernel) rfl
theorem tw_1161 : ((.instanceMethod ({ cls := "BundlesOfBidsModel", name := "pricesOf", desc := "(I)I" } : MethodName)) : Cond) ∈ tbl := tb_5 (i := 201) (by decide +kernel) rfl
theorem tw_1162 : ((.code ({ cls := "BundlesOfBidsModel", name := "pricesOf", desc := "(I)I" } : MethodName) prog_9_method_42_code (4 : Nat) (some FieldType.int)) : Cond) ∈ tbl := tb_5 (i := 202) (by decide +kernel) rfl
theorem tw_1163 : ((.methodLink "BundlesOfBidsModel" (234 : Nat) ({ cls := "BundlesOfBidsModel", name := "harmOf", desc := "(I)I" } : MethodName)) : Cond) ∈ tbl := tb_5 (i := 203) (by decide +kernel) rfl
theorem tw_1165 : ((.instanceMethod ({ cls := "BundlesOfBidsModel", name := "harmOf", desc := "(I)I" } : MethodName)) : Cond) ∈ tbl := tb_5 (i := 205) (by decide +kernel) rfl
theorem tw_1166 : ((.code ({ cls := "BundlesOfBidsModel", name := "harmOf", desc := "(I)I" } : MethodName) prog_9_method_43_code (3 : Nat) (some FieldType.int)) : Cond) ∈ tbl := tb_5 (i := 206) (by decide +kernel) rfl
theorem tw_1167 : ((.methodLink "BundlesOfBidsModel" (225 : Nat) ({ cls := "BundlesOfBidsModel", name := "bestOf", desc := "(I)I" } : MethodName)) : Cond) ∈ tbl := tb_5 (i := 207) (by decide +kernel) rfl
theorem tw_1169 : ((.instanceMethod ({ cls := "BundlesOfBidsModel", name := "bestOf", desc := "(I)I" } : MethodName)) : Cond) ∈ tbl := tb_5 (i := 209) (by decide +kernel) rfl
theorem tw_1170 : ((.code ({ cls := "BundlesOfBidsModel", name := "bestOf", desc := "(I)I" } : MethodName) prog_9_method_16_code (2 : Nat) (some FieldType.int)) : Cond) ∈ tbl := tb_5 (i := 210) (by decide +kernel) rfl
theorem tw_1171 : ((.methodLink "BundlesOfBidsLaw" (56 : Nat) ({ cls := "BundlesOfBidsModel", name := "may", desc := "(I)I" } : MethodName)) : Cond) ∈ tbl := tb_5 (i := 211) (by decide +kernel) rfl
theorem tw_1172 : ((.instanceMethod ({ cls := "BundlesOfBidsModel", name := "may", desc := "(I)I" } : MethodName)) : Cond) ∈ tbl := tb_5 (i := 212) (by decide +kernel) rfl
theorem tw_1173 : ((.selects "BundlesOfBidsModel" ({ cls := "BundlesOfBidsModel", name := "may", desc := "(I)I" } : MethodName) ({ cls := "BundlesOfBidsModel", name := "may", desc := "(I)I" } : MethodName)) : Cond) ∈ tbl := tb_5 (i := 213) (by decide +kernel) rfl
theorem tw_1174 : ((.code ({ cls := "BundlesOfBidsModel", name := "may", desc := "(I)I" } : MethodName) prog_9_method_45_code (2 : Nat) (some FieldType.int)) : Cond) ∈ tbl := tb_5 (i := 214) (by decide +kernel) rfl
theorem tw_1175 : ((.methodLink "BundlesOfBidsLaw" (60 : Nat) ({ cls := "BundlesOfBidsModel", name := "winners", desc := "(I)I" } : MethodName)) : Cond) ∈ tbl := tb_5 (i := 215) (by decide +kernel) rfl
theorem tw_1176 : ((.instanceMethod ({ cls := "BundlesOfBidsModel", name := "winners", desc := "(I)I" } : MethodName)) : Cond) ∈ tbl := tb_5 (i := 216) (by decide +kernel) rfl
theorem tw_1177 : ((.selects "BundlesOfBidsModel" ({ cls := "BundlesOfBidsModel", name := "winners", desc := "(I)I" } : MethodName) ({ cls := "BundlesOfBidsModel", name := "winners", desc := "(I)I" } : MethodName)) : Cond) ∈ tbl := tb_5 (i := 217) (by decide +kernel) rfl
theorem tw_1178 : ((.code ({ cls := "BundlesOfBidsModel", name := "winners", desc := "(I)I" } : MethodName) prog_9_method_46_code (3 : Nat) (some FieldType.int)) : Cond) ∈ tbl := tb_5 (i := 218) (by decide +kernel) rfl
theorem tw_1179 : ((.methodLink "BundlesOfBidsModel" (237 : Nat) ({ cls := "BundlesOfBidsModel", name := "looked", desc := "()I" } : MethodName)) : Cond) ∈ tbl := tb_5 (i := 219) (by decide +kernel) rfl
theorem tw_1181 : ((.instanceMethod ({ cls := "BundlesOfBidsModel", name := "looked", desc := "()I" } : MethodName)) : Cond) ∈ tbl := tb_5 (i := 221) (by decide +kernel) rfl
theorem tw_1182 : ((.code ({ cls := "BundlesOfBidsModel", name := "looked", desc := "()I" } : MethodName) prog_9_method_39_code (8 : Nat) (some FieldType.int)) : Cond) ∈ tbl := tb_5 (i := 222) (by decide +kernel) rfl
theorem tw_1183 : ((.methodLink "BundlesOfBidsModel" (216 : Nat) ({ cls := "BundlesOfBidsModel", name := "boundOf", desc := "(II)I" } : MethodName)) : Cond) ∈ tbl := tb_5 (i := 223) (by decide +kernel) rfl
theorem tw_1185 : ((.instanceMethod ({ cls := "BundlesOfBidsModel", name := "boundOf", desc := "(II)I" } : MethodName)) : Cond) ∈ tbl := tb_5 (i := 225) (by decide +kernel) rfl
theorem tw_1186 : ((.code ({ cls := "BundlesOfBidsModel", name := "boundOf", desc := "(II)I" } : MethodName) prog_9_method_38_code (7 : Nat) (some FieldType.int)) : Cond) ∈ tbl := tb_5 (i := 226) (by decide +kernel) rfl
theorem tw_1187 : ((.methodLink "BundlesOfBidsModel" (211 : Nat) ({ cls := "java/lang/Math", name := "max", desc := "(II)I" } : MethodName)) : Cond) ∈ tbl := tb_5 (i := 227) (by decide +kernel) rfl
theorem tw_1188 : ((.methodLink "BundlesOfBidsLaw" (64 : Nat) ({ cls := "BundlesOfBidsModel", name := "rank", desc := "(II)I" } : MethodName)) : Cond) ∈ tbl := tb_5 (i := 228) (by decide +kernel) rfl
theorem tw_1189 : ((.instanceMethod ({ cls := "BundlesOfBidsModel", name := "rank", desc := "(II)I" } : MethodName)) : Cond) ∈ tbl := tb_5 (i := 229) (by decide +kernel) rfl
theorem tw_1190 : ((.selects "BundlesOfBidsModel" ({ cls := "BundlesOfBidsModel", name := "rank", desc := "(II)I" } : MethodName) ({ cls := "BundlesOfBidsModel", name := "rank", desc := "(II)I" } : MethodName)) : Cond) ∈ tbl := tb_5 (i := 230) (by decide +kernel) rfl
theorem tw_1191 : ((.code ({ cls := "BundlesOfBidsModel", name := "rank", desc := "(II)I" } : MethodName) prog_9_method_48_code (7 : Nat) (some FieldType.int)) : Cond) ∈ tbl := tb_5 (i := 231) (by decide +kernel) rfl
theorem tw_1192 : ((.methodLink "BundlesOfBidsModel" (240 : Nat) ({ cls := "BundlesOfBidsModel", name := "isOutcome", desc := "(I)Z" } : MethodName)) : Cond) ∈ tbl := tb_5 (i := 232) (by decide +kernel) rfl
theorem tw_1194 : ((.instanceMethod ({ cls := "BundlesOfBidsModel", name := "isOutcome", desc := "(I)Z" } : MethodName)) : Cond) ∈ tbl := tb_5 (i := 234) (by decide +kernel) rfl
theorem tw_1195 : ((.code ({ cls := "BundlesOfBidsModel", name := "isOutcome", desc := "(I)Z" } : MethodName) prog_9_method_47_code (2 : Nat) (Option.some FieldType.boolean)) : Cond) ∈ tbl := tb_5 (i := 235) (by decide +kernel) rfl
theorem tw_1196 : ((.methodLink "BundlesOfBidsLaw" (68 : Nat) ({ cls := "BundlesOfBidsModel", name := "item", desc := "(II)I" } : MethodName)) : Cond) ∈ tbl := tb_5 (i := 236) (by decide +kernel) rfl
theorem tw_1197 : ((.instanceMethod ({ cls := "BundlesOfBidsModel", name := "item", desc := "(II)I" } : MethodName)) : Cond) ∈ tbl := tb_5 (i := 237) (by decide +kernel) rfl
theorem tw_1198 : ((.selects "BundlesOfBidsModel" ({ cls := "BundlesOfBidsModel", name := "item", desc := "(II)I" } : MethodName) ({ cls := "BundlesOfBidsModel", name := "item", desc := "(II)I" } : MethodName)) : Cond) ∈ tbl := tb_5 (i := 238) (by decide +kernel) rfl
theorem tw_1199 : ((.code ({ cls := "BundlesOfBidsModel", name := "item", desc := "(II)I" } : MethodName) prog_9_method_50_code (6 : Nat) (some FieldType.int)) : Cond) ∈ tbl := tb_5 (i := 239) (by decide +kernel) rfl
theorem tw_1200 : ((.methodLink "BundlesOfBidsModel" (243 : Nat) ({ cls := "BundlesOfBidsModel", name := "worthLess", desc := "(I)I" } : MethodName)) : Cond) ∈ tbl := tb_6 (i := 0) (by decide +kernel) rfl
theorem tw_1202 : ((.instanceMethod ({ cls := "BundlesOfBidsModel", name := "worthLess", desc := "(I)I" } : MethodName)) : Cond) ∈ tbl := tb_6 (i := 2) (by decide +kernel) rfl
theorem tw_1203 : ((.code ({ cls := "BundlesOfBidsModel", name := "worthLess", desc := "(I)I" } : MethodName) prog_9_method_49_code (4 : Nat) (some FieldType.int)) : Cond) ∈ tbl := tb_6 (i := 3) (by decide +kernel) rfl
theorem tw_1204 : ((.methodLink "BundlesOfBidsLaw" (72 : Nat) ({ cls := "BundlesOfBidsModel", name := "rival", desc := "(II)I" } : MethodName)) : Cond) ∈ tbl := tb_6 (i := 4) (by decide +kernel) rfl
theorem tw_1205 : ((.instanceMethod ({ cls := "BundlesOfBidsModel", name := "rival", desc := "(II)I" } : MethodName)) : Cond) ∈ tbl := tb_6 (i := 5) (by decide +kernel) rfl
theorem tw_1206 : ((.selects "BundlesOfBidsModel" ({ cls := "BundlesOfBidsModel", name := "rival", desc := "(II)I" } : MethodName) ({ cls := "BundlesOfBidsModel", name := "rival", desc := "(II)I" } : MethodName)) : Cond) ∈ tbl := tb_6 (i := 6) (by decide +kernel) rfl
theorem tw_1207 : ((.code ({ cls := "BundlesOfBidsModel", name := "rival", desc := "(II)I" } : MethodName) prog_9_method_51_code (5 : Nat) (some FieldType.int)) : Cond) ∈ tbl := tb_6 (i := 7) (by decide +kernel) rfl
theorem tw_1208 : ((.methodLink "BundlesOfBidsLaw" (76 : Nat) ({ cls := "BundlesOfBidsModel", name := "of", desc := "(II)I" } : MethodName)) : Cond) ∈ tbl := tb_6 (i := 8) (by decide +kernel) rfl
theorem tw_1209 : ((.instanceMethod ({ cls := "BundlesOfBidsModel", name := "of", desc := "(II)I" } : MethodName)) : Cond) ∈ tbl := tb_6 (i := 9) (by decide +kernel) rfl
theorem tw_1210 : ((.selects "BundlesOfBidsModel" ({ cls := "BundlesOfBidsModel", name := "of", desc := "(II)I" } : MethodName) ({ cls := "BundlesOfBidsModel", name := "of", desc := "(II)I" } : MethodName)) : Cond) ∈ tbl := tb_6 (i := 10) (by decide +kernel) rfl
theorem tw_1211 : ((.code ({ cls := "BundlesOfBidsModel", name := "of", desc := "(II)I" } : MethodName) prog_9_method_52_code (4 : Nat) (some FieldType.int)) : Cond) ∈ tbl := tb_6 (i := 11) (by decide +kernel) rfl
theorem tw_1212 : ((.methodLink "BundlesOfBidsLaw" (80 : Nat) ({ cls := "BundlesOfBidsModel", name := "pays", desc := "(II)I" } : MethodName)) : Cond) ∈ tbl := tb_6 (i := 12) (by decide +kernel) rfl
theorem tw_1213 : ((.instanceMethod ({ cls := "BundlesOfBidsModel", name := "pays", desc := "(II)I" } : MethodName)) : Cond) ∈ tbl := tb_6 (i := 13) (by decide +kernel) rfl
theorem tw_1214 : ((.selects "BundlesOfBidsModel" ({ cls := "BundlesOfBidsModel", name := "pays", desc := "(II)I" } : MethodName) ({ cls := "BundlesOfBidsModel", name := "pays", desc := "(II)I" } : MethodName)) : Cond) ∈ tbl := tb_6 (i := 14) (by decide +kernel) rfl
theorem tw_1215 : ((.code ({ cls := "BundlesOfBidsModel", name := "pays", desc := "(II)I" } : MethodName) prog_9_method_60_code (3 : Nat) (some FieldType.int)) : Cond) ∈ tbl := tb_6 (i := 15) (by decide +kernel) rfl
theorem tw_1216 : ((.methodLink "BundlesOfBidsModel" (271 : Nat) ({ cls := "BundlesOfBidsModel", name := "finds", desc := "(I)V" } : MethodName)) : Cond) ∈ tbl := tb_6 (i := 16) (by decide +kernel) rfl
theorem tw_1218 : ((.instanceMethod ({ cls := "BundlesOfBidsModel", name := "finds", desc := "(I)V" } : MethodName)) : Cond) ∈ tbl := tb_6 (i := 18) (by decide +kernel) rfl
theorem tw_1219 : ((.code ({ cls := "BundlesOfBidsModel", name := "finds", desc := "(I)V" } : MethodName) prog_9_method_59_code (3 : Nat) (Option.none : Option FieldType)) : Cond) ∈ tbl := tb_6 (i := 19) (by decide +kernel) rfl
theorem tw_1220 : ((.methodLink "BundlesOfBidsModel" (268 : Nat) ({ cls := "BundlesOfBidsModel", name := "findLifted", desc := "()V" } : MethodName)) : Cond) ∈ tbl := tb_6 (i := 20) (by decide +kernel) rfl
theorem tw_1222 : ((.instanceMethod ({ cls := "BundlesOfBidsModel", name := "findLifted", desc := "()V" } : MethodName)) : Cond) ∈ tbl := tb_6 (i := 22) (by decide +kernel) rfl
theorem tw_1223 : ((.code ({ cls := "BundlesOfBidsModel", name := "findLifted", desc := "()V" } : MethodName) prog_9_method_58_code (5 : Nat) (Option.none : Option FieldType)) : Cond) ∈ tbl := tb_6 (i := 23) (by decide +kernel) rfl
theorem tw_1224 : ((.methodLink "BundlesOfBidsModel" (256 : Nat) ({ cls := "BundlesOfBidsModel", name := "findHarm", desc := "()V" } : MethodName)) : Cond) ∈ tbl := tb_6 (i := 24) (by decide +kernel) rfl
theorem tw_1226 : ((.instanceMethod ({ cls := "BundlesOfBidsModel", name := "findHarm", desc := "()V" } : MethodName)) : Cond) ∈ tbl := tb_6 (i := 26) (by decide +kernel) rfl
theorem tw_1227 : ((.code ({ cls := "BundlesOfBidsModel", name := "findHarm", desc := "()V" } : MethodName) prog_9_method_54_code (3 : Nat) (Option.none : Option FieldType)) : Cond) ∈ tbl := tb_6 (i := 27) (by decide +kernel) rfl
theorem tw_1228 : ((.methodLink "BundlesOfBidsModel" (262 : Nat) ({ cls := "BundlesOfBidsModel", name := "blocker", desc := "()I" } : MethodName)) : Cond) ∈ tbl := tb_6 (i := 28) (by decide +kernel) rfl
theorem tw_1230 : ((.instanceMethod ({ cls := "BundlesOfBidsModel", name := "blocker", desc := "()I" } : MethodName)) : Cond) ∈ tbl := tb_6 (i := 30) (by decide +kernel) rfl
theorem tw_1231 : ((.code ({ cls := "BundlesOfBidsModel", name := "blocker", desc := "()I" } : MethodName) prog_9_method_57_code (5 : Nat) (some FieldType.int)) : Cond) ∈ tbl := tb_6 (i := 31) (by decide +kernel) rfl
theorem tw_1232 : ((.methodLink "BundlesOfBidsModel" (253 : Nat) ({ cls := "BundlesOfBidsModel", name := "blocksBy", desc := "(I)I" } : MethodName)) : Cond) ∈ tbl := tb_6 (i := 32) (by decide +kernel) rfl
theorem tw_1234 : ((.instanceMethod ({ cls := "BundlesOfBidsModel", name := "blocksBy", desc := "(I)I" } : MethodName)) : Cond) ∈ tbl := tb_6 (i := 34) (by decide +kernel) rfl
theorem tw_1235 : ((.code ({ cls := "BundlesOfBidsModel", name := "blocksBy", desc := "(I)I" } : MethodName) prog_9_method_56_code (5 : Nat) (some FieldType.int)) : Cond) ∈ tbl := tb_6 (i := 35) (by decide +kernel) rfl
theorem tw_1236 : ((.methodLink "BundlesOfBidsModel" (246 : Nat) ({ cls := "BundlesOfBidsModel", name := "ofGroup", desc := "(I)I" } : MethodName)) : Cond) ∈ tbl := tb_6 (i := 36) (by decide +kernel) rfl
theorem tw_1238 : ((.instanceMethod ({ cls := "BundlesOfBidsModel", name := "ofGroup", desc := "(I)I" } : MethodName)) : Cond) ∈ tbl := tb_6 (i := 38) (by decide +kernel) rfl
theorem tw_1239 : ((.code ({ cls := "BundlesOfBidsModel", name := "ofGroup", desc := "(I)I" } : MethodName) prog_9_method_55_code (4 : Nat) (some FieldType.int)) : Cond) ∈ tbl := tb_6 (i := 39) (by decide +kernel) rfl
theorem tw_1240 : ((.methodLink "BundlesOfBidsModel" (249 : Nat) ({ cls := "BundlesOfBidsModel", name := "together", desc := "([I)I" } : MethodName)) : Cond) ∈ tbl := tb_6 (i := 40) (by decide +kernel) rfl
theorem tw_1242 : ((.instanceMethod ({ cls := "BundlesOfBidsModel", name := "together", desc := "([I)I" } : MethodName)) : Cond) ∈ tbl := tb_6 (i := 42) (by decide +kernel) rfl
theorem tw_1243 : ((.code ({ cls := "BundlesOfBidsModel", name := "together", desc := "([I)I" } : MethodName) prog_9_method_53_code (4 : Nat) (some FieldType.int)) : Cond) ∈ tbl := tb_6 (i := 43) (by decide +kernel) rfl
theorem tw_1244 : ((.methodLink "BundlesOfBidsModel" (265 : Nat) ({ cls := "java/lang/Math", name := "min", desc := "(II)I" } : MethodName)) : Cond) ∈ tbl := tb_6 (i := 44) (by decide +kernel) rfl
theorem tw_1245 : ((.methodLink "BundlesOfBidsLaw" (84 : Nat) ({ cls := "BundlesOfBidsModel", name := "blocks", desc := "(II)I" } : MethodName)) : Cond) ∈ tbl := tb_6 (i := 45) (by decide +kernel) rfl
theorem tw_1246 : ((.instanceMethod ({ cls := "BundlesOfBidsModel", name := "blocks", desc := "(II)I" } : MethodName)) : Cond) ∈ tbl := tb_6 (i := 46) (by decide +kernel) rfl
theorem tw_1247 : ((.selects "BundlesOfBidsModel" ({ cls := "BundlesOfBidsModel", name := "blocks", desc := "(II)I" } : MethodName) ({ cls := "BundlesOfBidsModel", name := "blocks", desc := "(II)I" } : MethodName)) : Cond) ∈ tbl := tb_6 (i := 47) (by decide +kernel) rfl
theorem tw_1248 : ((.code ({ cls := "BundlesOfBidsModel", name := "blocks", desc := "(II)I" } : MethodName) prog_9_method_61_code (4 : Nat) (some FieldType.int)) : Cond) ∈ tbl := tb_6 (i := 48) (by decide +kernel) rfl
theorem tw_1249 : ((.methodLink "BundlesOfBidsLaw" (88 : Nat) ({ cls := "BundlesOfBidsModel", name := "lifts", desc := "()I" } : MethodName)) : Cond) ∈ tbl := tb_6 (i := 49) (by decide +kernel) rfl
theorem tw_1250 : ((.instanceMethod ({ cls := "BundlesOfBidsModel", name := "lifts", desc := "()I" } : MethodName)) : Cond) ∈ tbl := tb_6 (i := 50) (by decide +kernel) rfl
theorem tw_1251 : ((.selects "BundlesOfBidsModel" ({ cls := "BundlesOfBidsModel", name := "lifts", desc := "()I" } : MethodName) ({ cls := "BundlesOfBidsModel", name := "lifts", desc := "()I" } : MethodName)) : Cond) ∈ tbl := tb_6 (i := 51) (by decide +kernel) rfl
theorem tw_1252 : ((.code ({ cls := "BundlesOfBidsModel", name := "lifts", desc := "()I" } : MethodName) prog_9_method_62_code (1 : Nat) (some FieldType.int)) : Cond) ∈ tbl := tb_6 (i := 52) (by decide +kernel) rfl
theorem tw_1253 : ((.methodLink "BundlesOfBidsLaw" (92 : Nat) ({ cls := "BundlesOfBidsModel", name := "group", desc := "(II)I" } : MethodName)) : Cond) ∈ tbl := tb_6 (i := 53) (by decide +kernel) rfl
theorem tw_1254 : ((.instanceMethod ({ cls := "BundlesOfBidsModel", name := "group", desc := "(II)I" } : MethodName)) : Cond) ∈ tbl := tb_6 (i := 54) (by decide +kernel) rfl
theorem tw_1255 : ((.selects "BundlesOfBidsModel" ({ cls := "BundlesOfBidsModel", name := "group", desc := "(II)I" } : MethodName) ({ cls := "BundlesOfBidsModel", name := "group", desc := "(II)I" } : MethodName)) : Cond) ∈ tbl := tb_6 (i := 55) (by decide +kernel) rfl
theorem tw_1256 : ((.code ({ cls := "BundlesOfBidsModel", name := "group", desc := "(II)I" } : MethodName) prog_9_method_63_code (6 : Nat) (some FieldType.int)) : Cond) ∈ tbl := tb_6 (i := 56) (by decide +kernel) rfl
theorem tw_1257 : ((.methodLink "BundlesOfBidsLaw" (96 : Nat) ({ cls := "BundlesOfBidsModel", name := "envy", desc := "(II)I" } : MethodName)) : Cond) ∈ tbl := tb_6 (i := 57) (by decide +kernel) rfl
theorem tw_1258 : ((.instanceMethod ({ cls := "BundlesOfBidsModel", name := "envy", desc := "(II)I" } : MethodName)) : Cond) ∈ tbl := tb_6 (i := 58) (by decide +kernel) rfl
theorem tw_1259 : ((.selects "BundlesOfBidsModel" ({ cls := "BundlesOfBidsModel", name := "envy", desc := "(II)I" } : MethodName) ({ cls := "BundlesOfBidsModel", name := "envy", desc := "(II)I" } : MethodName)) : Cond) ∈ tbl := tb_6 (i := 59) (by decide +kernel) rfl
theorem tw_1260 : ((.code ({ cls := "BundlesOfBidsModel", name := "envy", desc := "(II)I" } : MethodName) prog_9_method_64_code (6 : Nat) (some FieldType.int)) : Cond) ∈ tbl := tb_6 (i := 60) (by decide +kernel) rfl
theorem tw_1261 : ((.methodLink "BundlesOfBidsLaw" (100 : Nat) ({ cls := "BundlesOfBidsModel", name := "gain", desc := "(I)I" } : MethodName)) : Cond) ∈ tbl := tb_6 (i := 61) (by decide +kernel) rfl
theorem tw_1262 : ((.instanceMethod ({ cls := "BundlesOfBidsModel", name := "gain", desc := "(I)I" } : MethodName)) : Cond) ∈ tbl := tb_6 (i := 62) (by decide +kernel) rfl
theorem tw_1263 : ((.selects "BundlesOfBidsModel" ({ cls := "BundlesOfBidsModel", name := "gain", desc := "(I)I" } : MethodName) ({ cls := "BundlesOfBidsModel", name := "gain", desc := "(I)I" } : MethodName)) : Cond) ∈ tbl := tb_6 (i := 63) (by decide +kernel) rfl
theorem tw_1264 : ((.code ({ cls := "BundlesOfBidsModel", name := "gain", desc := "(I)I" } : MethodName) prog_9_method_65_code (7 : Nat) (some FieldType.int)) : Cond) ∈ tbl := tb_6 (i := 64) (by decide +kernel) rfl
theorem tw_1265 : ((.constant "BundlesOfBidsModel" (274 : Nat) (-100000 : Int32)) : Cond) ∈ tbl := tb_6 (i := 65) (by decide +kernel) rfl
theorem tw_1266 : ((.methodLink "BundlesOfBidsLaw" (104 : Nat) ({ cls := "BundlesOfBidsModel", name := "without", desc := "(I)I" } : MethodName)) : Cond) ∈ tbl := tb_6 (i := 66) (by decide +kernel) rfl
theorem tw_1267 : ((.instanceMethod ({ cls := "BundlesOfBidsModel", name := "without", desc := "(I)I" } : MethodName)) : Cond) ∈ tbl := tb_6 (i := 67) (by decide +kernel) rfl
theorem tw_1268 : ((.selects "BundlesOfBidsModel" ({ cls := "BundlesOfBidsModel", name := "without", desc := "(I)I" } : MethodName) ({ cls := "BundlesOfBidsModel", name := "without", desc := "(I)I" } : MethodName)) : Cond) ∈ tbl := tb_6 (i := 68) (by decide +kernel) rfl
theorem tw_1269 : ((.code ({ cls := "BundlesOfBidsModel", name := "without", desc := "(I)I" } : MethodName) prog_9_method_66_code (2 : Nat) (some FieldType.int)) : Cond) ∈ tbl := tb_6 (i := 69) (by decide +kernel) rfl
theorem tw_1270 : ((.methodLink "BundlesOfBidsLaw" (108 : Nat) ({ cls := "BundlesOfBidsModel", name := "least", desc := "(I)I" } : MethodName)) : Cond) ∈ tbl := tb_6 (i := 70) (by decide +kernel) rfl
theorem tw_1271 : ((.instanceMethod ({ cls := "BundlesOfBidsModel", name := "least", desc := "(I)I" } : MethodName)) : Cond) ∈ tbl := tb_6 (i := 71) (by decide +kernel) rfl
theorem tw_1272 : ((.selects "BundlesOfBidsModel" ({ cls := "BundlesOfBidsModel", name := "least", desc := "(I)I" } : MethodName) ({ cls := "BundlesOfBidsModel", name := "least", desc := "(I)I" } : MethodName)) : Cond) ∈ tbl := tb_6 (i := 72) (by decide +kernel) rfl
theorem tw_1273 : ((.code ({ cls := "BundlesOfBidsModel", name := "least", desc := "(I)I" } : MethodName) prog_9_method_68_code (5 : Nat) (some FieldType.int)) : Cond) ∈ tbl := tb_6 (i := 73) (by decide +kernel) rfl
theorem tw_1274 : ((.methodLink "BundlesOfBidsModel" (275 : Nat) ({ cls := "BundlesOfBidsModel", name := "winsBy", desc := "(II)Z" } : MethodName)) : Cond) ∈ tbl := tb_6 (i := 74) (by decide +kernel) rfl
theorem tw_1276 : ((.instanceMethod ({ cls := "BundlesOfBidsModel", name := "winsBy", desc := "(II)Z" } : MethodName)) : Cond) ∈ tbl := tb_6 (i := 76) (by decide +kernel) rfl
theorem tw_1277 : ((.code ({ cls := "BundlesOfBidsModel", name := "winsBy", desc := "(II)Z" } : MethodName) prog_9_method_67_code (5 : Nat) (Option.some FieldType.boolean)) : Cond) ∈ tbl := tb_6 (i := 77) (by decide +kernel) rfl
theorem tw_1278 : ((.methodLink "BundlesOfBidsLaw" (112 : Nat) ({ cls := "BundlesOfBidsModel", name := "tight", desc := "()I" } : MethodName)) : Cond) ∈ tbl := tb_6 (i := 78) (by decide +kernel) rfl
theorem tw_1279 : ((.instanceMethod ({ cls := "BundlesOfBidsModel", name := "tight", desc := "()I" } : MethodName)) : Cond) ∈ tbl := tb_6 (i := 79) (by decide +kernel) rfl
theorem tw_1280 : ((.selects "BundlesOfBidsModel" ({ cls := "BundlesOfBidsModel", name := "tight", desc := "()I" } : MethodName) ({ cls := "BundlesOfBidsModel", name := "tight", desc := "()I" } : MethodName)) : Cond) ∈ tbl := tb_6 (i := 80) (by decide +kernel) rfl
theorem tw_1281 : ((.code ({ cls := "BundlesOfBidsModel", name := "tight", desc := "()I" } : MethodName) prog_9_method_69_code (4 : Nat) (some FieldType.int)) : Cond) ∈ tbl := tb_6 (i := 81) (by decide +kernel) rfl
theorem tw_1282 : ((.methodLink "BundlesOfBidsLaw" (117 : Nat) ({ cls := "BundlesOfBidsModel", name := "missing", desc := "(III)J" } : MethodName)) : Cond) ∈ tbl := tb_6 (i := 82) (by decide +kernel) rfl
theorem tw_1283 : ((.instanceMethod ({ cls := "BundlesOfBidsModel", name := "missing", desc := "(III)J" } : MethodName)) : Cond) ∈ tbl := tb_6 (i := 83) (by decide +kernel) rfl
theorem tw_1284 : ((.selects "BundlesOfBidsModel" ({ cls := "BundlesOfBidsModel", name := "missing", desc := "(III)J" } : MethodName) ({ cls := "BundlesOfBidsModel", name := "missing", desc := "(III)J" } : MethodName)) : Cond) ∈ tbl := tb_6 (i := 84) (by decide +kernel) rfl
theorem tw_1285 : ((.code ({ cls := "BundlesOfBidsModel", name := "missing", desc := "(III)J" } : MethodName) prog_9_method_72_code (12 : Nat) (Option.some FieldType.long)) : Cond) ∈ tbl := tb_6 (i := 85) (by decide +kernel) rfl
theorem tw_1286 : ((.constantLong "BundlesOfBidsModel" (282 : Nat) (4000000000000000000 : Int64)) : Cond) ∈ tbl := tb_6 (i := 86) (by decide +kernel) rfl
theorem tw_1287 : ((.methodLink "BundlesOfBidsModel" (284 : Nat) ({ cls := "BundlesOfBidsModel", name := "partOf", desc := "(JJI)J" } : MethodName)) : Cond) ∈ tbl := tb_6 (i := 87) (by decide +kernel) rfl
theorem tw_1288 : ((.static ({ cls := "BundlesOfBidsModel", name := "partOf", desc := "(JJI)J" } : MethodName)) : Cond) ∈ tbl := tb_6 (i := 88) (by decide +kernel) rfl
theorem tw_1289 : ((.code ({ cls := "BundlesOfBidsModel", name := "partOf", desc := "(JJI)J" } : MethodName) prog_9_method_71_code (5 : Nat) (Option.some FieldType.long)) : Cond) ∈ tbl := tb_6 (i := 89) (by decide +kernel) rfl
theorem tw_1290 : ((.methodLink "BundlesOfBidsModel" (278 : Nat) ({ cls := "BundlesOfBidsModel", name := "common", desc := "(JJ)J" } : MethodName)) : Cond) ∈ tbl := tb_6 (i := 90) (by decide +kernel) rfl
theorem tw_1291 : ((.static ({ cls := "BundlesOfBidsModel", name := "common", desc := "(JJ)J" } : MethodName)) : Cond) ∈ tbl := tb_6 (i := 91) (by decide +kernel) rfl
theorem tw_1292 : ((.code ({ cls := "BundlesOfBidsModel", name := "common", desc := "(JJ)J" } : MethodName) prog_9_method_70_code (6 : Nat) (Option.some FieldType.long)) : Cond) ∈ tbl := tb_6 (i := 92) (by decide +kernel) rfl
theorem tw_1293 : ((.methodLink "BundlesOfBidsLaw" (122 : Nat) ({ cls := "BundlesOfBidsModel", name := "mean", desc := "(II)J" } : MethodName)) : Cond) ∈ tbl := tb_6 (i := 93) (by decide +kernel) rfl
theorem tw_1294 : ((.instanceMethod ({ cls := "BundlesOfBidsModel", name := "mean", desc := "(II)J" } : MethodName)) : Cond) ∈ tbl := tb_6 (i := 94) (by decide +kernel) rfl
theorem tw_1295 : ((.selects "BundlesOfBidsModel" ({ cls := "BundlesOfBidsModel", name := "mean", desc := "(II)J" } : MethodName) ({ cls := "BundlesOfBidsModel", name := "mean", desc := "(II)J" } : MethodName)) : Cond) ∈ tbl := tb_6 (i := 95) (by decide +kernel) rfl
theorem tw_1296 : ((.code ({ cls := "BundlesOfBidsModel", name := "mean", desc := "(II)J" } : MethodName) prog_9_method_73_code (5 : Nat) (Option.some FieldType.long)) : Cond) ∈ tbl := tb_6 (i := 96) (by decide +kernel) rfl
theorem tw_1297 : ((.methodLink "BundlesOfBidsLaw" (126 : Nat) ({ cls := "BundlesOfBidsModel", name := "printed", desc := "(I)I" } : MethodName)) : Cond) ∈ tbl := tb_6 (i := 97) (by decide +kernel) rfl
theorem tw_1298 : ((.instanceMethod ({ cls := "BundlesOfBidsModel", name := "printed", desc := "(I)I" } : MethodName)) : Cond) ∈ tbl := tb_6 (i := 98) (by decide +kernel) rfl
theorem tw_1299 : ((.selects "BundlesOfBidsModel" ({ cls := "BundlesOfBidsModel", name := "printed", desc := "(I)I" } : MethodName) ({ cls := "BundlesOfBidsModel", name := "printed", desc := "(I)I" } : MethodName)) : Cond) ∈ tbl := tb_6 (i := 99) (by decide +kernel) rfl
theorem tw_1300 : ((.code ({ cls := "BundlesOfBidsModel", name := "printed", desc := "(I)I" } : MethodName) prog_9_method_74_code (6 : Nat) (some FieldType.int)) : Cond) ∈ tbl := tb_6 (i := 100) (by decide +kernel) rfl
theorem tw_1301 : ((.classLink "BundlesOfBidsModel" (288 : Nat) "java/lang/StringBuilder") : Cond) ∈ tbl := tb_6 (i := 101) (by decide +kernel) rfl
theorem tw_1302 : ((.instantiable "java/lang/StringBuilder" (4 : Nat)) : Cond) ∈ tbl := tb_6 (i := 102) (by decide +kernel) rfl
theorem tw_1303 : ((.methodLink "BundlesOfBidsModel" (290 : Nat) ({ cls := "java/lang/StringBuilder", name := "<init>", desc := "()V" } : MethodName)) : Cond) ∈ tbl := tb_6 (i := 103) (by decide +kernel) rfl
theorem tw_1304 : ((.instanceMethod ({ cls := "java/lang/StringBuilder", name := "<init>", desc := "()V" } : MethodName)) : Cond) ∈ tbl := tb_6 (i := 104) (by decide +kernel) rfl
theorem tw_1305 : ((.code ({ cls := "java/lang/StringBuilder", name := "<init>", desc := "()V" } : MethodName) prog_15_method_1_code (1 : Nat) (Option.none : Option FieldType)) : Cond) ∈ tbl := tb_6 (i := 105) (by decide +kernel) rfl
theorem tw_1306 : ((.methodLink "java/lang/StringBuilder" (1 : Nat) ({ cls := "java/lang/AbstractStringBuilder", name := "<init>", desc := "(I)V" } : MethodName)) : Cond) ∈ tbl := tb_6 (i := 106) (by decide +kernel) rfl
theorem tw_1307 : ((.instanceMethod ({ cls := "java/lang/AbstractStringBuilder", name := "<init>", desc := "(I)V" } : MethodName)) : Cond) ∈ tbl := tb_6 (i := 107) (by decide +kernel) rfl
theorem tw_1308 : ((.code ({ cls := "java/lang/AbstractStringBuilder", name := "<init>", desc := "(I)V" } : MethodName) prog_10_method_2_code (2 : Nat) (Option.none : Option FieldType)) : Cond) ∈ tbl := tb_6 (i := 108) (by decide +kernel) rfl
theorem tw_1309 : ((.methodLink "java/lang/AbstractStringBuilder" (3 : Nat) ({ cls := "java/lang/Object", name := "<init>", desc := "()V" } : MethodName)) : Cond) ∈ tbl := tb_6 (i := 109) (by decide +kernel) rfl
theorem tw_1310 : ((.fieldLink "java/lang/AbstractStringBuilder" (18 : Nat) "java/lang/String" "COMPACT_STRINGS" "Z") : Cond) ∈ tbl := tb_6 (i := 110) (by decide +kernel) rfl
theorem tw_1311 : ((.methodLink "java/lang/AbstractStringBuilder" (26 : Nat) ({ cls := "java/lang/StringUTF16", name := "newBytesFor", desc := "(I)[B" } : MethodName)) : Cond) ∈ tbl := tb_6 (i := 111) (by decide +kernel) rfl
theorem tw_1312 : ((.static ({ cls := "java/lang/StringUTF16", name := "newBytesFor", desc := "(I)[B" } : MethodName)) : Cond) ∈ tbl := tb_6 (i := 112) (by decide +kernel) rfl
theorem tw_1313 : ((.code ({ cls := "java/lang/StringUTF16", name := "newBytesFor", desc := "(I)[B" } : MethodName) prog_17_method_2_code (1 : Nat) (Option.some (FieldType.array FieldType.byte))) : Cond) ∈ tbl := tb_6 (i := 113) (by decide +kernel) rfl
theorem tw_1314 : ((.methodLink "java/lang/StringUTF16" (11 : Nat) ({ cls := "java/lang/StringUTF16", name := "newBytesLength", desc := "(I)I" } : MethodName)) : Cond) ∈ tbl := tb_6 (i := 114) (by decide +kernel) rfl
theorem tw_1315 : ((.static ({ cls := "java/lang/StringUTF16", name := "newBytesLength", desc := "(I)I" } : MethodName)) : Cond) ∈ tbl := tb_6 (i := 115) (by decide +kernel) rfl
theorem tw_1316 : ((.code ({ cls := "java/lang/StringUTF16", name := "newBytesLength", desc := "(I)I" } : MethodName) prog_17_method_3_code (1 : Nat) (some FieldType.int)) : Cond) ∈ tbl := tb_6 (i := 116) (by decide +kernel) rfl
theorem tw_1317 : ((.constant "java/lang/StringUTF16" (20 : Nat) (1073741823 : Int32)) : Cond) ∈ tbl := tb_6 (i := 117) (by decide +kernel) rfl
theorem tw_1318 : ((.fieldLink "java/lang/AbstractStringBuilder" (15 : Nat) "java/lang/AbstractStringBuilder" "value" "[B") : Cond) ∈ tbl := tb_6 (i := 118) (by decide +kernel) rfl
theorem tw_1319 : ((.fieldLink "java/lang/AbstractStringBuilder" (22 : Nat) "java/lang/AbstractStringBuilder" "coder" "B") : Cond) ∈ tbl := tb_6 (i := 119) (by decide +kernel) rfl
theorem tw_1320 : ((.fieldLink "java/lang/AbstractStringBuilder" (79 : Nat) "java/lang/AbstractStringBuilder" "count" "I") : Cond) ∈ tbl := tb_6 (i := 120) (by decide +kernel) rfl
theorem tw_1329 : ((.superclass "java/lang/StringBuilder" "java/lang/AbstractStringBuilder") : Cond) ∈ tbl := tb_6 (i := 129) (by decide +kernel) rfl
theorem tw_1330 : ((.methodLink "BundlesOfBidsModel" (291 : Nat) ({ cls := "java/lang/StringBuilder", name := "length", desc := "()I" } : MethodName)) : Cond) ∈ tbl := tb_6 (i := 130) (by decide +kernel) rfl
theorem tw_1331 : ((.instanceMethod ({ cls := "java/lang/StringBuilder", name := "length", desc := "()I" } : MethodName)) : Cond) ∈ tbl := tb_6 (i := 131) (by decide +kernel) rfl
theorem tw_1332 : ((.selects "java/lang/StringBuilder" ({ cls := "java/lang/StringBuilder", name := "length", desc := "()I" } : MethodName) ({ cls := "java/lang/StringBuilder", name := "length", desc := "()I" } : MethodName)) : Cond) ∈ tbl := tb_6 (i := 132) (by decide +kernel) rfl
theorem tw_1333 : ((.code ({ cls := "java/lang/StringBuilder", name := "length", desc := "()I" } : MethodName) prog_15_method_93_code (1 : Nat) (some FieldType.int)) : Cond) ∈ tbl := tb_6 (i := 133) (by decide +kernel) rfl
theorem tw_1334 : ((.methodLink "java/lang/StringBuilder" (343 : Nat) ({ cls := "java/lang/AbstractStringBuilder", name := "length", desc := "()I" } : MethodName)) : Cond) ∈ tbl := tb_6 (i := 134) (by decide +kernel) rfl
theorem tw_1335 : ((.instanceMethod ({ cls := "java/lang/AbstractStringBuilder", name := "length", desc := "()I" } : MethodName)) : Cond) ∈ tbl := tb_6 (i := 135) (by decide +kernel) rfl
theorem tw_1336 : ((.code ({ cls := "java/lang/AbstractStringBuilder", name := "length", desc := "()I" } : MethodName) prog_10_method_6_code (1 : Nat) (some FieldType.int)) : Cond) ∈ tbl := tb_6 (i := 136) (by decide +kernel) rfl
theorem tw_1337 : ((.methodLink "BundlesOfBidsModel" (292 : Nat) ({ cls := "java/lang/StringBuilder", name := "append", desc := "(C)Ljava/lang/StringBuilder;" } : MethodName)) : Cond) ∈ tbl := tb_6 (i := 137) (by decide +kernel) rfl
theorem tw_1338 : ((.instanceMethod ({ cls := "java/lang/StringBuilder", name := "append", desc := "(C)Ljava/lang/StringBuilder;" } : MethodName)) : Cond) ∈ tbl := tb_6 (i := 138) (by decide +kernel) rfl
theorem tw_1339 : ((.selects "java/lang/StringBuilder" ({ cls := "java/lang/StringBuilder", name := "append", desc := "(C)Ljava/lang/StringBuilder;" } : MethodName) ({ cls := "java/lang/StringBuilder", name := "append", desc := "(C)Ljava/lang/StringBuilder;" } : MethodName)) : Cond) ∈ tbl := tb_6 (i := 139) (by decide +kernel) rfl
theorem tw_1340 : ((.code ({ cls := "java/lang/StringBuilder", name := "append", desc := "(C)Ljava/lang/StringBuilder;" } : MethodName) prog_15_method_14_code (2 : Nat) (Option.some (FieldType.object "java/lang/StringBuilder"))) : Cond) ∈ tbl := tb_6 (i := 140) (by decide +kernel) rfl
theorem tw_1341 : ((.methodLink "java/lang/StringBuilder" (50 : Nat) ({ cls := "java/lang/AbstractStringBuilder", name := "append", desc := "(C)Ljava/lang/AbstractStringBuilder;" } : MethodName)) : Cond) ∈ tbl := tb_6 (i := 141) (by decide +kernel) rfl
theorem tw_1342 : ((.instanceMethod ({ cls := "java/lang/AbstractStringBuilder", name := "append", desc := "(C)Ljava/lang/AbstractStringBuilder;" } : MethodName)) : Cond) ∈ tbl := tb_6 (i := 142) (by decide +kernel) rfl
theorem tw_1343 : ((.code ({ cls := "java/lang/AbstractStringBuilder", name := "append", desc := "(C)Ljava/lang/AbstractStringBuilder;" } : MethodName) prog_10_method_31_code (2 : Nat) (Option.some (FieldType.object "java/lang/AbstractStringBuilder"))) : Cond) ∈ tbl := tb_6 (i := 143) (by decide +kernel) rfl
theorem tw_1344 : ((.methodLink "java/lang/AbstractStringBuilder" (100 : Nat) ({ cls := "java/lang/AbstractStringBuilder", name := "ensureCapacityInternal", desc := "(I)V" } : MethodName)) : Cond) ∈ tbl := tb_6 (i := 144) (by decide +kernel) rfl
theorem tw_1346 : ((.instanceMethod ({ cls := "java/lang/AbstractStringBuilder", name := "ensureCapacityInternal", desc := "(I)V" } : MethodName)) : Cond) ∈ tbl := tb_6 (i := 146) (by decide +kernel) rfl
theorem tw_1347 : ((.code ({ cls := "java/lang/AbstractStringBuilder", name := "ensureCapacityInternal", desc := "(I)V" } : MethodName) prog_10_method_9_code (3 : Nat) (Option.none : Option FieldType)) : Cond) ∈ tbl := tb_6 (i := 147) (by decide +kernel) rfl
theorem tw_1348 : ((.methodLink "java/lang/AbstractStringBuilder" (104 : Nat) ({ cls := "java/lang/AbstractStringBuilder", name := "newCapacity", desc := "(I)I" } : MethodName)) : Cond) ∈ tbl := tb_6 (i := 148) (by decide +kernel) rfl
theorem tw_1350 : ((.instanceMethod ({ cls := "java/lang/AbstractStringBuilder", name := "newCapacity", desc := "(I)I" } : MethodName)) : Cond) ∈ tbl := tb_6 (i := 150) (by decide +kernel) rfl
theorem tw_1351 : ((.code ({ cls := "java/lang/AbstractStringBuilder", name := "newCapacity", desc := "(I)I" } : MethodName) prog_10_method_10_code (6 : Nat) (some FieldType.int)) : Cond) ∈ tbl := tb_6 (i := 151) (by decide +kernel) rfl
theorem tw_1352 : ((.methodLink "java/lang/AbstractStringBuilder" (114 : Nat) ({ cls := "jdk/internal/util/ArraysSupport", name := "newLength", desc := "(III)I" } : MethodName)) : Cond) ∈ tbl := tb_6 (i := 152) (by decide +kernel) rfl
theorem tw_1353 : ((.static ({ cls := "jdk/internal/util/ArraysSupport", name := "newLength", desc := "(III)I" } : MethodName)) : Cond) ∈ tbl := tb_6 (i := 153) (by decide +kernel) rfl
theorem tw_1354 : ((.code ({ cls := "jdk/internal/util/ArraysSupport", name := "newLength", desc := "(III)I" } : MethodName) prog_20_method_27_code (4 : Nat) (some FieldType.int)) : Cond) ∈ tbl := tb_6 (i := 154) (by decide +kernel) rfl
theorem tw_1355 : ((.methodLink "jdk/internal/util/ArraysSupport" (194 : Nat) ({ cls := "java/lang/Math", name := "max", desc := "(II)I" } : MethodName)) : Cond) ∈ tbl := tb_6 (i := 155) (by decide +kernel) rfl
theorem tw_1356 : ((.constant "jdk/internal/util/ArraysSupport" (200 : Nat) (2147483639 : Int32)) : Cond) ∈ tbl := tb_6 (i := 156) (by decide +kernel) rfl
theorem tw_1357 : ((.methodLink "jdk/internal/util/ArraysSupport" (201 : Nat) ({ cls := "jdk/internal/util/ArraysSupport", name := "hugeLength", desc := "(II)I" } : MethodName)) : Cond) ∈ tbl := tb_6 (i := 157) (by decide +kernel) rfl
theorem tw_1358 : ((.static ({ cls := "jdk/internal/util/ArraysSupport", name := "hugeLength", desc := "(II)I" } : MethodName)) : Cond) ∈ tbl := tb_6 (i := 158) (by decide +kernel) rfl
theorem tw_1359 : ((.code ({ cls := "jdk/internal/util/ArraysSupport", name := "hugeLength", desc := "(II)I" } : MethodName) prog_20_method_28_code (3 : Nat) (some FieldType.int)) : Cond) ∈ tbl := tb_6 (i := 159) (by decide +kernel) rfl
theorem tw_1360 : ((.constant "java/lang/AbstractStringBuilder" (39 : Nat) (2147483647 : Int32)) : Cond) ∈ tbl := tb_6 (i := 160) (by decide +kernel) rfl
theorem tw_1361 : ((.methodLink "java/lang/AbstractStringBuilder" (108 : Nat) ({ cls := "java/util/Arrays", name := "copyOf", desc := "([BI)[B" } : MethodName)) : Cond) ∈ tbl := tb_6 (i := 161) (by decide +kernel) rfl
theorem tw_1362 : ((.static ({ cls := "java/util/Arrays", name := "copyOf", desc := "([BI)[B" } : MethodName)) : Cond) ∈ tbl := tb_6 (i := 162) (by decide +kernel) rfl
theorem tw_1363 : ((.code ({ cls := "java/util/Arrays", name := "copyOf", desc := "([BI)[B" } : MethodName) prog_19_method_121_code (3 : Nat) (Option.some (FieldType.array FieldType.byte))) : Cond) ∈ tbl := tb_6 (i := 163) (by decide +kernel) rfl
theorem tw_1364 : ((.methodLink "java/util/Arrays" (310 : Nat) ({ cls := "[B", name := "clone", desc := "()Ljava/lang/Object;" } : MethodName)) : Cond) ∈ tbl := tb_6 (i := 164) (by decide +kernel) rfl
theorem tw_1365 : ((.sameMethod "[B" "java/lang/Object" "clone" "()Ljava/lang/Object;") : Cond) ∈ tbl := tb_6 (i := 165) (by decide +kernel) rfl
theorem tw_1366 : ((.native ({ cls := "java/lang/Object", name := "clone", desc := "()Ljava/lang/Object;" } : MethodName)) : Cond) ∈ tbl := tb_6 (i := 166) (by decide +kernel) rfl
theorem tw_1367 : ((.instanceMethod ({ cls := "java/lang/Object", name := "clone", desc := "()Ljava/lang/Object;" } : MethodName)) : Cond) ∈ tbl := tb_6 (i := 167) (by decide +kernel) rfl
theorem tw_1368 : ((.selects "[B" ({ cls := "[B", name := "clone", desc := "()Ljava/lang/Object;" } : MethodName) ({ cls := "java/lang/Object", name := "clone", desc := "()Ljava/lang/Object;" } : MethodName)) : Cond) ∈ tbl := tb_6 (i := 168) (by decide +kernel) rfl
theorem tw_1370 : ((.classLink "java/util/Arrays" (311 : Nat) "[B") : Cond) ∈ tbl := tb_6 (i := 170) (by decide +kernel) rfl
theorem tw_1371 : ((.methodLink "java/util/Arrays" (304 : Nat) ({ cls := "java/lang/Math", name := "min", desc := "(II)I" } : MethodName)) : Cond) ∈ tbl := tb_6 (i := 171) (by decide +kernel) rfl
theorem tw_1372 : ((.methodLink "java/util/Arrays" (150 : Nat) ({ cls := "java/lang/System", name := "arraycopy", desc := "(Ljava/lang/Object;ILjava/lang/Object;II)V" } : MethodName)) : Cond) ∈ tbl := tb_6 (i := 172) (by decide +kernel) rfl
theorem tw_1373 : ((.methodLink "java/lang/AbstractStringBuilder" (83 : Nat) ({ cls := "java/lang/AbstractStringBuilder", name := "isLatin1", desc := "()Z" } : MethodName)) : Cond) ∈ tbl := tb_6 (i := 173) (by decide +kernel) rfl
theorem tw_1374 : ((.instanceMethod ({ cls := "java/lang/AbstractStringBuilder", name := "isLatin1", desc := "()Z" } : MethodName)) : Cond) ∈ tbl := tb_6 (i := 174) (by decide +kernel) rfl
theorem tw_1375 : ((.sameMethod "java/lang/AbstractStringBuilder" "java/lang/AbstractStringBuilder" "isLatin1" "()Z") : Cond) ∈ tbl := tb_6 (i := 175) (by decide +kernel) rfl
theorem tw_1376 : ((.selects "java/lang/StringBuilder" ({ cls := "java/lang/AbstractStringBuilder", name := "isLatin1", desc := "()Z" } : MethodName) ({ cls := "java/lang/AbstractStringBuilder", name := "isLatin1", desc := "()Z" } : MethodName)) : Cond) ∈ tbl := tb_6 (i := 176) (by decide +kernel) rfl
theorem tw_1377 : ((.code ({ cls := "java/lang/AbstractStringBuilder", name := "isLatin1", desc := "()Z" } : MethodName) prog_10_method_68_code (1 : Nat) (Option.some FieldType.boolean)) : Cond) ∈ tbl := tb_6 (i := 177) (by decide +kernel) rfl
theorem tw_1378 : ((.methodLink "java/lang/AbstractStringBuilder" (191 : Nat) ({ cls := "java/lang/StringLatin1", name := "canEncode", desc := "(C)Z" } : MethodName)) : Cond) ∈ tbl := tb_6 (i := 178) (by decide +kernel) rfl
theorem tw_1379 : ((.static ({ cls := "java/lang/StringLatin1", name := "canEncode", desc := "(C)Z" } : MethodName)) : Cond) ∈ tbl := tb_6 (i := 179) (by decide +kernel) rfl
theorem tw_1380 : ((.code ({ cls := "java/lang/StringLatin1", name := "canEncode", desc := "(C)Z" } : MethodName) prog_16_method_3_code (1 : Nat) (Option.some FieldType.boolean)) : Cond) ∈ tbl := tb_6 (i := 180) (by decide +kernel) rfl
theorem tw_1381 : ((.methodLink "java/lang/AbstractStringBuilder" (195 : Nat) ({ cls := "java/lang/AbstractStringBuilder", name := "inflate", desc := "()V" } : MethodName)) : Cond) ∈ tbl := tb_6 (i := 181) (by decide +kernel) rfl
theorem tw_1383 : ((.instanceMethod ({ cls := "java/lang/AbstractStringBuilder", name := "inflate", desc := "()V" } : MethodName)) : Cond) ∈ tbl := tb_6 (i := 183) (by decide +kernel) rfl
theorem tw_1384 : ((.code ({ cls := "java/lang/AbstractStringBuilder", name := "inflate", desc := "()V" } : MethodName) prog_10_method_11_code (2 : Nat) (Option.none : Option FieldType)) : Cond) ∈ tbl := tb_6 (i := 184) (by decide +kernel) rfl
theorem tw_1385 : ((.methodLink "java/lang/AbstractStringBuilder" (125 : Nat) ({ cls := "java/lang/StringLatin1", name := "inflate", desc := "([BI[BII)V" } : MethodName)) : Cond) ∈ tbl := tb_6 (i := 185) (by decide +kernel) rfl
theorem tw_1386 : ((.static ({ cls := "java/lang/StringLatin1", name := "inflate", desc := "([BI[BII)V" } : MethodName)) : Cond) ∈ tbl := tb_6 (i := 186) (by decide +kernel) rfl
theorem tw_1387 : ((.code ({ cls := "java/lang/StringLatin1", name := "inflate", desc := "([BI[BII)V" } : MethodName) prog_16_method_50_code (5 : Nat) (Option.none : Option FieldType)) : Cond) ∈ tbl := tb_6 (i := 187) (by decide +kernel) rfl
theorem tw_1388 : ((.methodLink "java/lang/StringLatin1" (240 : Nat) ({ cls := "java/lang/StringUTF16", name := "inflate", desc := "([BI[BII)V" } : MethodName)) : Cond) ∈ tbl := tb_6 (i := 188) (by decide +kernel) rfl
theorem tw_1389 : ((.static ({ cls := "java/lang/StringUTF16", name := "inflate", desc := "([BI[BII)V" } : MethodName)) : Cond) ∈ tbl := tb_6 (i := 189) (by decide +kernel) rfl
theorem tw_1390 : ((.code ({ cls := "java/lang/StringUTF16", name := "inflate", desc := "([BI[BII)V" } : MethodName) prog_17_method_86_code (6 : Nat) (Option.none : Option FieldType)) : Cond) ∈ tbl := tb_6 (i := 190) (by decide +kernel) rfl
theorem tw_1391 : ((.methodLink "java/lang/StringUTF16" (173 : Nat) ({ cls := "java/lang/StringUTF16", name := "checkBoundsOffCount", desc := "(II[B)V" } : MethodName)) : Cond) ∈ tbl := tb_6 (i := 191) (by decide +kernel) rfl
theorem tw_1392 : ((.static ({ cls := "java/lang/StringUTF16", name := "checkBoundsOffCount", desc := "(II[B)V" } : MethodName)) : Cond) ∈ tbl := tb_6 (i := 192) (by decide +kernel) rfl
theorem tw_1393 : ((.code ({ cls := "java/lang/StringUTF16", name := "checkBoundsOffCount", desc := "(II[B)V" } : MethodName) prog_17_method_94_code (3 : Nat) (Option.none : Option FieldType)) : Cond) ∈ tbl := tb_6 (i := 193) (by decide +kernel) rfl
theorem tw_1394 : ((.methodLink "java/lang/StringUTF16" (419 : Nat) ({ cls := "java/lang/String", name := "checkBoundsOffCount", desc := "(III)I" } : MethodName)) : Cond) ∈ tbl := tb_6 (i := 194) (by decide +kernel) rfl
theorem tw_1395 : ((.static ({ cls := "java/lang/String", name := "checkBoundsOffCount", desc := "(III)I" } : MethodName)) : Cond) ∈ tbl := tb_6 (i := 195) (by decide +kernel) rfl
theorem tw_1396 : ((.code ({ cls := "java/lang/String", name := "checkBoundsOffCount", desc := "(III)I" } : MethodName) prog_14_method_157_code (3 : Nat) (some FieldType.int)) : Cond) ∈ tbl := tb_6 (i := 196) (by decide +kernel) rfl
theorem tw_1397 : ((.methodLink "java/lang/String" (1065 : Nat) ({ cls := "jdk/internal/util/Preconditions", name := "checkFromIndexSize", desc := "(IIILjava/util/function/BiFunction;)I" } : MethodName)) : Cond) ∈ tbl := tb_6 (i := 197) (by decide +kernel) rfl
theorem tw_1398 : ((.static ({ cls := "jdk/internal/util/Preconditions", name := "checkFromIndexSize", desc := "(IIILjava/util/function/BiFunction;)I" } : MethodName)) : Cond) ∈ tbl := tb_6 (i := 198) (by decide +kernel) rfl
theorem tw_1399 : ((.code ({ cls := "jdk/internal/util/Preconditions", name := "checkFromIndexSize", desc := "(IIILjava/util/function/BiFunction;)I" } : MethodName) prog_21_method_13_code (4 : Nat) (some FieldType.int)) : Cond) ∈ tbl := tb_6 (i := 199) (by decide +kernel) rfl
theorem tw_1400 : ((.methodLink "java/lang/StringUTF16" (111 : Nat) ({ cls := "java/lang/StringUTF16", name := "putChar", desc := "([BII)V" } : MethodName)) : Cond) ∈ tbl := tb_6 (i := 200) (by decide +kernel) rfl
theorem tw_1401 : ((.static ({ cls := "java/lang/StringUTF16", name := "putChar", desc := "([BII)V" } : MethodName)) : Cond) ∈ tbl := tb_6 (i := 201) (by decide +kernel) rfl
theorem tw_1402 : ((.code ({ cls := "java/lang/StringUTF16", name := "putChar", desc := "([BII)V" } : MethodName) prog_17_method_4_code (3 : Nat) (Option.none : Option FieldType)) : Cond) ∈ tbl := tb_6 (i := 202) (by decide +kernel) rfl
theorem tw_1403 : ((.methodLink "java/lang/AbstractStringBuilder" (197 : Nat) ({ cls := "java/lang/StringUTF16", name := "putCharSB", desc := "([BII)V" } : MethodName)) : Cond) ∈ tbl := tb_6 (i := 203) (by decide +kernel) rfl
theorem tw_1404 : ((.static ({ cls := "java/lang/StringUTF16", name := "putCharSB", desc := "([BII)V" } : MethodName)) : Cond) ∈ tbl := tb_6 (i := 204) (by decide +kernel) rfl
theorem tw_1405 : ((.code ({ cls := "java/lang/StringUTF16", name := "putCharSB", desc := "([BII)V" } : MethodName) prog_17_method_71_code (3 : Nat) (Option.none : Option FieldType)) : Cond) ∈ tbl := tb_6 (i := 205) (by decide +kernel) rfl
theorem tw_1406 : ((.methodLink "BundlesOfBidsModel" (296 : Nat) ({ cls := "java/lang/StringBuilder", name := "append", desc := "(I)Ljava/lang/StringBuilder;" } : MethodName)) : Cond) ∈ tbl := tb_6 (i := 206) (by decide +kernel) rfl
theorem tw_1407 : ((.instanceMethod ({ cls := "java/lang/StringBuilder", name := "append", desc := "(I)Ljava/lang/StringBuilder;" } : MethodName)) : Cond) ∈ tbl := tb_6 (i := 207) (by decide +kernel) rfl
theorem tw_1408 : ((.selects "java/lang/StringBuilder" ({ cls := "java/lang/StringBuilder", name := "append", desc := "(I)Ljava/lang/StringBuilder;" } : MethodName) ({ cls := "java/lang/StringBuilder", name := "append", desc := "(I)Ljava/lang/StringBuilder;" } : MethodName)) : Cond) ∈ tbl := tb_6 (i := 208) (by decide +kernel) rfl
theorem tw_1409 : ((.code ({ cls := "java/lang/StringBuilder", name := "append", desc := "(I)Ljava/lang/StringBuilder;" } : MethodName) prog_15_method_15_code (2 : Nat) (Option.some (FieldType.object "java/lang/StringBuilder"))) : Cond) ∈ tbl := tb_6 (i := 209) (by decide +kernel) rfl
theorem tw_1410 : ((.methodLink "java/lang/StringBuilder" (53 : Nat) ({ cls := "java/lang/AbstractStringBuilder", name := "append", desc := "(I)Ljava/lang/AbstractStringBuilder;" } : MethodName)) : Cond) ∈ tbl := tb_6 (i := 210) (by decide +kernel) rfl
theorem tw_1411 : ((.instanceMethod ({ cls := "java/lang/AbstractStringBuilder", name := "append", desc := "(I)Ljava/lang/AbstractStringBuilder;" } : MethodName)) : Cond) ∈ tbl := tb_6 (i := 211) (by decide +kernel) rfl
theorem tw_1412 : ((.code ({ cls := "java/lang/AbstractStringBuilder", name := "append", desc := "(I)Ljava/lang/AbstractStringBuilder;" } : MethodName) prog_10_method_32_code (4 : Nat) (Option.some (FieldType.object "java/lang/AbstractStringBuilder"))) : Cond) ∈ tbl := tb_6 (i := 212) (by decide +kernel) rfl
theorem tw_1413 : ((.methodLink "java/lang/AbstractStringBuilder" (245 : Nat) ({ cls := "java/lang/Integer", name := "stringSize", desc := "(I)I" } : MethodName)) : Cond) ∈ tbl := tb_6 (i := 213) (by decide +kernel) rfl
theorem tw_1414 : ((.static ({ cls := "java/lang/Integer", name := "stringSize", desc := "(I)I" } : MethodName)) : Cond) ∈ tbl := tb_6 (i := 214) (by decide +kernel) rfl
theorem tw_1415 : ((.code ({ cls := "java/lang/Integer", name := "stringSize", desc := "(I)I" } : MethodName) prog_12_method_13_code (4 : Nat) (some FieldType.int)) : Cond) ∈ tbl := tb_6 (i := 215) (by decide +kernel) rfl
theorem tw_1416 : ((.methodLink "java/lang/AbstractStringBuilder" (248 : Nat) ({ cls := "java/lang/Integer", name := "getChars", desc := "(II[B)I" } : MethodName)) : Cond) ∈ tbl := tb_6 (i := 216) (by decide +kernel) rfl
theorem tw_1417 : ((.static ({ cls := "java/lang/Integer", name := "getChars", desc := "(II[B)I" } : MethodName)) : Cond) ∈ tbl := tb_6 (i := 217) (by decide +kernel) rfl
theorem tw_1418 : ((.code ({ cls := "java/lang/Integer", name := "getChars", desc := "(II[B)I" } : MethodName) prog_12_method_12_code (7 : Nat) (some FieldType.int)) : Cond) ∈ tbl := tb_6 (i := 218) (by decide +kernel) rfl
theorem tw_1419 : ((.fieldLink "java/lang/Integer" (83 : Nat) "java/lang/Integer" "DigitOnes" "[B") : Cond) ∈ tbl := tb_6 (i := 219) (by decide +kernel) rfl
theorem tw_1421 : ((.fieldLink "java/lang/Integer" (87 : Nat) "java/lang/Integer" "DigitTens" "[B") : Cond) ∈ tbl := tb_6 (i := 221) (by decide +kernel) rfl
theorem tw_1423 : ((.methodLink "java/lang/AbstractStringBuilder" (251 : Nat) ({ cls := "java/lang/StringUTF16", name := "getChars", desc := "(III[B)I" } : MethodName)) : Cond) ∈ tbl := tb_6 (i := 223) (by decide +kernel) rfl
theorem tw_1424 : ((.static ({ cls := "java/lang/StringUTF16", name := "getChars", desc := "(III[B)I" } : MethodName)) : Cond) ∈ tbl := tb_6 (i := 224) (by decide +kernel) rfl
theorem tw_1425 : ((.code ({ cls := "java/lang/StringUTF16", name := "getChars", desc := "(III[B)I" } : MethodName) prog_17_method_77_code (5 : Nat) (some FieldType.int)) : Cond) ∈ tbl := tb_6 (i := 225) (by decide +kernel) rfl
theorem tw_1426 : ((.methodLink "java/lang/StringUTF16" (96 : Nat) ({ cls := "java/lang/StringUTF16", name := "checkBoundsBeginEnd", desc := "(II[B)V" } : MethodName)) : Cond) ∈ tbl := tb_6 (i := 226) (by decide +kernel) rfl
theorem tw_1427 : ((.static ({ cls := "java/lang/StringUTF16", name := "checkBoundsBeginEnd", desc := "(II[B)V" } : MethodName)) : Cond) ∈ tbl := tb_6 (i := 227) (by decide +kernel) rfl
theorem tw_1428 : ((.code ({ cls := "java/lang/StringUTF16", name := "checkBoundsBeginEnd", desc := "(II[B)V" } : MethodName) prog_17_method_93_code (3 : Nat) (Option.none : Option FieldType)) : Cond) ∈ tbl := tb_6 (i := 228) (by decide +kernel) rfl
theorem tw_1429 : ((.methodLink "java/lang/StringUTF16" (241 : Nat) ({ cls := "java/lang/String", name := "checkBoundsBeginEnd", desc := "(III)V" } : MethodName)) : Cond) ∈ tbl := tb_6 (i := 229) (by decide +kernel) rfl
theorem tw_1430 : ((.static ({ cls := "java/lang/String", name := "checkBoundsBeginEnd", desc := "(III)V" } : MethodName)) : Cond) ∈ tbl := tb_6 (i := 230) (by decide +kernel) rfl
theorem tw_1431 : ((.code ({ cls := "java/lang/String", name := "checkBoundsBeginEnd", desc := "(III)V" } : MethodName) prog_14_method_158_code (3 : Nat) (Option.none : Option FieldType)) : Cond) ∈ tbl := tb_6 (i := 231) (by decide +kernel) rfl
theorem tw_1432 : ((.methodLink "java/lang/String" (1062 : Nat) ({ cls := "jdk/internal/util/Preconditions", name := "checkFromToIndex", desc := "(IIILjava/util/function/BiFunction;)I" } : MethodName)) : Cond) ∈ tbl := tb_6 (i := 232) (by decide +kernel) rfl
theorem tw_1433 : ((.static ({ cls := "jdk/internal/util/Preconditions", name := "checkFromToIndex", desc := "(IIILjava/util/function/BiFunction;)I" } : MethodName)) : Cond) ∈ tbl := tb_6 (i := 233) (by decide +kernel) rfl
theorem tw_1434 : ((.code ({ cls := "jdk/internal/util/Preconditions", name := "checkFromToIndex", desc := "(IIILjava/util/function/BiFunction;)I" } : MethodName) prog_21_method_12_code (4 : Nat) (some FieldType.int)) : Cond) ∈ tbl := tb_6 (i := 234) (by decide +kernel) rfl
theorem tw_1435 : ((.methodLink "java/lang/StringUTF16" (393 : Nat) ({ cls := "java/lang/StringUTF16", name := "getChars", desc := "(II[B)I" } : MethodName)) : Cond) ∈ tbl := tb_6 (i := 235) (by decide +kernel) rfl
theorem tw_1436 : ((.static ({ cls := "java/lang/StringUTF16", name := "getChars", desc := "(II[B)I" } : MethodName)) : Cond) ∈ tbl := tb_6 (i := 236) (by decide +kernel) rfl
theorem tw_1437 : ((.code ({ cls := "java/lang/StringUTF16", name := "getChars", desc := "(II[B)I" } : MethodName) prog_17_method_89_code (7 : Nat) (some FieldType.int)) : Cond) ∈ tbl := tb_6 (i := 237) (by decide +kernel) rfl
theorem tw_1438 : ((.fieldLink "java/lang/StringUTF16" (403 : Nat) "java/lang/Integer" "DigitOnes" "[B") : Cond) ∈ tbl := tb_6 (i := 238) (by decide +kernel) rfl
theorem tw_1439 : ((.fieldLink "java/lang/StringUTF16" (407 : Nat) "java/lang/Integer" "DigitTens" "[B") : Cond) ∈ tbl := tb_6 (i := 239) (by decide +kernel) rfl
theorem tw_1440 : ((.methodLink "BundlesOfBidsModel" (299 : Nat) ({ cls := "java/lang/StringBuilder", name := "charAt", desc := "(I)C" } : MethodName)) : Cond) ∈ tbl := tb_7 (i := 0) (by decide +kernel) rfl
theorem tw_1441 : ((.instanceMethod ({ cls := "java/lang/StringBuilder", name := "charAt", desc := "(I)C" } : MethodName)) : Cond) ∈ tbl := tb_7 (i := 1) (by decide +kernel) rfl
theorem tw_1442 : ((.selects "java/lang/StringBuilder" ({ cls := "java/lang/StringBuilder", name := "charAt", desc := "(I)C" } : MethodName) ({ cls := "java/lang/StringBuilder", name := "charAt", desc := "(I)C" } : MethodName)) : Cond) ∈ tbl := tb_7 (i := 2) (by decide +kernel) rfl
theorem tw_1443 : ((.code ({ cls := "java/lang/StringBuilder", name := "charAt", desc := "(I)C" } : MethodName) prog_15_method_88_code (2 : Nat) (Option.some FieldType.char)) : Cond) ∈ tbl := tb_7 (i := 3) (by decide +kernel) rfl
theorem tw_1444 : ((.methodLink "java/lang/StringBuilder" (329 : Nat) ({ cls := "java/lang/AbstractStringBuilder", name := "charAt", desc := "(I)C" } : MethodName)) : Cond) ∈ tbl := tb_7 (i := 4) (by decide +kernel) rfl
theorem tw_1445 : ((.instanceMethod ({ cls := "java/lang/AbstractStringBuilder", name := "charAt", desc := "(I)C" } : MethodName)) : Cond) ∈ tbl := tb_7 (i := 5) (by decide +kernel) rfl
theorem tw_1446 : ((.code ({ cls := "java/lang/AbstractStringBuilder", name := "charAt", desc := "(I)C" } : MethodName) prog_10_method_14_code (5 : Nat) (Option.some FieldType.char)) : Cond) ∈ tbl := tb_7 (i := 6) (by decide +kernel) rfl
theorem tw_1447 : ((.methodLink "java/lang/AbstractStringBuilder" (138 : Nat) ({ cls := "java/lang/Math", name := "min", desc := "(II)I" } : MethodName)) : Cond) ∈ tbl := tb_7 (i := 7) (by decide +kernel) rfl
theorem tw_1448 : ((.methodLink "java/lang/AbstractStringBuilder" (144 : Nat) ({ cls := "java/lang/String", name := "checkIndex", desc := "(II)V" } : MethodName)) : Cond) ∈ tbl := tb_7 (i := 8) (by decide +kernel) rfl
theorem tw_1449 : ((.methodLink "java/lang/AbstractStringBuilder" (148 : Nat) ({ cls := "java/lang/StringUTF16", name := "getChar", desc := "([BI)C" } : MethodName)) : Cond) ∈ tbl := tb_7 (i := 9) (by decide +kernel) rfl
theorem tw_1450 : ((.methodLink "BundlesOfBidsLaw" (130 : Nat) ({ cls := "BundlesOfBidsModel", name := "whatIs", desc := "(II)I" } : MethodName)) : Cond) ∈ tbl := tb_7 (i := 10) (by decide +kernel) rfl
theorem tw_1451 : ((.instanceMethod ({ cls := "BundlesOfBidsModel", name := "whatIs", desc := "(II)I" } : MethodName)) : Cond) ∈ tbl := tb_7 (i := 11) (by decide +kernel) rfl
theorem tw_1452 : ((.selects "BundlesOfBidsModel" ({ cls := "BundlesOfBidsModel", name := "whatIs", desc := "(II)I" } : MethodName) ({ cls := "BundlesOfBidsModel", name := "whatIs", desc := "(II)I" } : MethodName)) : Cond) ∈ tbl := tb_7 (i := 12) (by decide +kernel) rfl
theorem tw_1453 : ((.code ({ cls := "BundlesOfBidsModel", name := "whatIs", desc := "(II)I" } : MethodName) prog_9_method_76_code (7 : Nat) (some FieldType.int)) : Cond) ∈ tbl := tb_7 (i := 13) (by decide +kernel) rfl
theorem tw_1454 : ((.methodLink "BundlesOfBidsModel" (303 : Nat) ({ cls := "BundlesOfBidsModel", name := "otherwise", desc := "()I" } : MethodName)) : Cond) ∈ tbl := tb_7 (i := 14) (by decide +kernel) rfl
theorem tw_1456 : ((.instanceMethod ({ cls := "BundlesOfBidsModel", name := "otherwise", desc := "()I" } : MethodName)) : Cond) ∈ tbl := tb_7 (i := 16) (by decide +kernel) rfl
theorem tw_1457 : ((.code ({ cls := "BundlesOfBidsModel", name := "otherwise", desc := "()I" } : MethodName) prog_9_method_75_code (2 : Nat) (some FieldType.int)) : Cond) ∈ tbl := tb_7 (i := 17) (by decide +kernel) rfl
theorem tw_1458 : ((.methodLink "BundlesOfBidsLaw" (134 : Nat) ({ cls := "BundlesOfBidsModel", name := "row", desc := "(I)I" } : MethodName)) : Cond) ∈ tbl := tb_7 (i := 18) (by decide +kernel) rfl
theorem tw_1459 : ((.instanceMethod ({ cls := "BundlesOfBidsModel", name := "row", desc := "(I)I" } : MethodName)) : Cond) ∈ tbl := tb_7 (i := 19) (by decide +kernel) rfl
theorem tw_1460 : ((.selects "BundlesOfBidsModel" ({ cls := "BundlesOfBidsModel", name := "row", desc := "(I)I" } : MethodName) ({ cls := "BundlesOfBidsModel", name := "row", desc := "(I)I" } : MethodName)) : Cond) ∈ tbl := tb_7 (i := 20) (by decide +kernel) rfl
theorem tw_1461 : ((.code ({ cls := "BundlesOfBidsModel", name := "row", desc := "(I)I" } : MethodName) prog_9_method_77_code (2 : Nat) (some FieldType.int)) : Cond) ∈ tbl := tb_7 (i := 21) (by decide +kernel) rfl
theorem tw_1462 : ((.methodLink "BundlesOfBidsLaw" (138 : Nat) ({ cls := "BundlesOfBidsModel", name := "judge", desc := "(I)I" } : MethodName)) : Cond) ∈ tbl := tb_7 (i := 22) (by decide +kernel) rfl
theorem tw_1463 : ((.instanceMethod ({ cls := "BundlesOfBidsModel", name := "judge", desc := "(I)I" } : MethodName)) : Cond) ∈ tbl := tb_7 (i := 23) (by decide +kernel) rfl
theorem tw_1464 : ((.selects "BundlesOfBidsModel" ({ cls := "BundlesOfBidsModel", name := "judge", desc := "(I)I" } : MethodName) ({ cls := "BundlesOfBidsModel", name := "judge", desc := "(I)I" } : MethodName)) : Cond) ∈ tbl := tb_7 (i := 24) (by decide +kernel) rfl
theorem tw_1465 : ((.code ({ cls := "BundlesOfBidsModel", name := "judge", desc := "(I)I" } : MethodName) prog_9_method_78_code (3 : Nat) (some FieldType.int)) : Cond) ∈ tbl := tb_7 (i := 25) (by decide +kernel) rfl
theorem tw_1466 : ((.methodLink "BundlesOfBidsLaw" (142 : Nat) ({ cls := "BundlesOfBidsModel", name := "clear", desc := "()I" } : MethodName)) : Cond) ∈ tbl := tb_7 (i := 26) (by decide +kernel) rfl
theorem tw_1467 : ((.instanceMethod ({ cls := "BundlesOfBidsModel", name := "clear", desc := "()I" } : MethodName)) : Cond) ∈ tbl := tb_7 (i := 27) (by decide +kernel) rfl
theorem tw_1468 : ((.selects "BundlesOfBidsModel" ({ cls := "BundlesOfBidsModel", name := "clear", desc := "()I" } : MethodName) ({ cls := "BundlesOfBidsModel", name := "clear", desc := "()I" } : MethodName)) : Cond) ∈ tbl := tb_7 (i := 28) (by decide +kernel) rfl
theorem tw_1469 : ((.code ({ cls := "BundlesOfBidsModel", name := "clear", desc := "()I" } : MethodName) prog_9_method_79_code (2 : Nat) (some FieldType.int)) : Cond) ∈ tbl := tb_7 (i := 29) (by decide +kernel) rfl
theorem tw_1470 : ((.methodLink "BundlesOfBidsLaw" (146 : Nat) ({ cls := "BundlesOfBidsModel", name := "lots", desc := "(III)I" } : MethodName)) : Cond) ∈ tbl := tb_7 (i := 30) (by decide +kernel) rfl
theorem tw_1471 : ((.instanceMethod ({ cls := "BundlesOfBidsModel", name := "lots", desc := "(III)I" } : MethodName)) : Cond) ∈ tbl := tb_7 (i := 31) (by decide +kernel) rfl
theorem tw_1472 : ((.selects "BundlesOfBidsModel" ({ cls := "BundlesOfBidsModel", name := "lots", desc := "(III)I" } : MethodName) ({ cls := "BundlesOfBidsModel", name := "lots", desc := "(III)I" } : MethodName)) : Cond) ∈ tbl := tb_7 (i := 32) (by decide +kernel) rfl
theorem tw_1473 : ((.code ({ cls := "BundlesOfBidsModel", name := "lots", desc := "(III)I" } : MethodName) prog_9_method_81_code (8 : Nat) (some FieldType.int)) : Cond) ∈ tbl := tb_7 (i := 33) (by decide +kernel) rfl
theorem tw_1474 : ((.methodLink "BundlesOfBidsModel" (312 : Nat) ({ cls := "BundlesOfBidsModel", name := "draw", desc := "(I)I" } : MethodName)) : Cond) ∈ tbl := tb_7 (i := 34) (by decide +kernel) rfl
theorem tw_1476 : ((.instanceMethod ({ cls := "BundlesOfBidsModel", name := "draw", desc := "(I)I" } : MethodName)) : Cond) ∈ tbl := tb_7 (i := 36) (by decide +kernel) rfl
theorem tw_1477 : ((.code ({ cls := "BundlesOfBidsModel", name := "draw", desc := "(I)I" } : MethodName) prog_9_method_80_code (2 : Nat) (some FieldType.int)) : Cond) ∈ tbl := tb_7 (i := 37) (by decide +kernel) rfl
theorem tw_1478 : ((.constant "BundlesOfBidsModel" (309 : Nat) (1664525 : Int32)) : Cond) ∈ tbl := tb_7 (i := 38) (by decide +kernel) rfl
theorem tw_1479 : ((.constant "BundlesOfBidsModel" (310 : Nat) (1013904223 : Int32)) : Cond) ∈ tbl := tb_7 (i := 39) (by decide +kernel) rfl
theorem tw_1480 : ((.constant "BundlesOfBidsModel" (311 : Nat) (2147483647 : Int32)) : Cond) ∈ tbl := tb_7 (i := 40) (by decide +kernel) rfl
theorem tw_1481 : ((.methodLink "BundlesOfBidsLaw" (150 : Nat) ({ cls := "BundlesOfBidsModel", name := "image", desc := "()I" } : MethodName)) : Cond) ∈ tbl := tb_7 (i := 41) (by decide +kernel) rfl
theorem tw_1482 : ((.instanceMethod ({ cls := "BundlesOfBidsModel", name := "image", desc := "()I" } : MethodName)) : Cond) ∈ tbl := tb_7 (i := 42) (by decide +kernel) rfl
theorem tw_1483 : ((.selects "BundlesOfBidsModel" ({ cls := "BundlesOfBidsModel", name := "image", desc := "()I" } : MethodName) ({ cls := "BundlesOfBidsModel", name := "image", desc := "()I" } : MethodName)) : Cond) ∈ tbl := tb_7 (i := 43) (by decide +kernel) rfl
theorem tw_1484 : ((.code ({ cls := "BundlesOfBidsModel", name := "image", desc := "()I" } : MethodName) prog_9_method_82_code (1 : Nat) (some FieldType.int)) : Cond) ∈ tbl := tb_7 (i := 44) (by decide +kernel) rfl
theorem tw_1485 : ((.methodLink "BundlesOfBidsLaw" (154 : Nat) ({ cls := "BundlesOfBidsModel", name := "on", desc := "()I" } : MethodName)) : Cond) ∈ tbl := tb_7 (i := 45) (by decide +kernel) rfl
theorem tw_1486 : ((.instanceMethod ({ cls := "BundlesOfBidsModel", name := "on", desc := "()I" } : MethodName)) : Cond) ∈ tbl := tb_7 (i := 46) (by decide +kernel) rfl
theorem tw_1487 : ((.selects "BundlesOfBidsModel" ({ cls := "BundlesOfBidsModel", name := "on", desc := "()I" } : MethodName) ({ cls := "BundlesOfBidsModel", name := "on", desc := "()I" } : MethodName)) : Cond) ∈ tbl := tb_7 (i := 47) (by decide +kernel) rfl
theorem tw_1488 : ((.code ({ cls := "BundlesOfBidsModel", name := "on", desc := "()I" } : MethodName) prog_9_method_83_code (1 : Nat) (some FieldType.int)) : Cond) ∈ tbl := tb_7 (i := 48) (by decide +kernel) rfl
theorem tw_1489 : ((.methodLink "BundlesOfBidsLaw" (158 : Nat) ({ cls := "BundlesOfBidsModel", name := "count", desc := "(I)I" } : MethodName)) : Cond) ∈ tbl := tb_7 (i := 49) (by decide +kernel) rfl
theorem tw_1490 : ((.instanceMethod ({ cls := "BundlesOfBidsModel", name := "count", desc := "(I)I" } : MethodName)) : Cond) ∈ tbl := tb_7 (i := 50) (by decide +kernel) rfl
theorem tw_1491 : ((.selects "BundlesOfBidsModel" ({ cls := "BundlesOfBidsModel", name := "count", desc := "(I)I" } : MethodName) ({ cls := "BundlesOfBidsModel", name := "count", desc := "(I)I" } : MethodName)) : Cond) ∈ tbl := tb_7 (i := 51) (by decide +kernel) rfl
theorem tw_1492 : ((.code ({ cls := "BundlesOfBidsModel", name := "count", desc := "(I)I" } : MethodName) prog_9_method_84_code (4 : Nat) (some FieldType.int)) : Cond) ∈ tbl := tb_7 (i := 52) (by decide +kernel) rfl
theorem tw_1493 : ((.sameMethod "java/lang/AbstractStringBuilder" "java/lang/AbstractStringBuilder" "length" "()I") : Cond) ∈ tbl := tb_7 (i := 53) (by decide +kernel) rfl
theorem tw_1494 : ((.sameMethod "java/lang/AbstractStringBuilder" "java/lang/AbstractStringBuilder" "append" "(C)Ljava/lang/AbstractStringBuilder;") : Cond) ∈ tbl := tb_7 (i := 54) (by decide +kernel) rfl
theorem tw_1495 : ((.sameMethod "java/lang/AbstractStringBuilder" "java/lang/AbstractStringBuilder" "ensureCapacityInternal" "(I)V") : Cond) ∈ tbl := tb_7 (i := 55) (by decide +kernel) rfl
theorem tw_1496 : ((.sameMethod "java/lang/AbstractStringBuilder" "java/lang/AbstractStringBuilder" "newCapacity" "(I)I") : Cond) ∈ tbl := tb_7 (i := 56) (by decide +kernel) rfl
theorem tw_1497 : ((.sameMethod "java/lang/AbstractStringBuilder" "java/lang/AbstractStringBuilder" "inflate" "()V") : Cond) ∈ tbl := tb_7 (i := 57) (by decide +kernel) rfl
theorem tw_1498 : ((.sameMethod "java/lang/AbstractStringBuilder" "java/lang/AbstractStringBuilder" "append" "(I)Ljava/lang/AbstractStringBuilder;") : Cond) ∈ tbl := tb_7 (i := 58) (by decide +kernel) rfl
theorem tw_1499 : ((.sameMethod "java/lang/AbstractStringBuilder" "java/lang/AbstractStringBuilder" "charAt" "(I)C") : Cond) ∈ tbl := tb_7 (i := 59) (by decide +kernel) rfl
theorem tw_1500 : ((.fieldLink "java/lang/String" (9 : Nat) "java/lang/String" "value" "[B") : Cond) ∈ tbl := tb_7 (i := 60) (by decide +kernel) rfl
theorem tw_1501 : ((.fieldLink "java/lang/String" (15 : Nat) "java/lang/String" "coder" "B") : Cond) ∈ tbl := tb_7 (i := 61) (by decide +kernel) rfl
theorem tp_0 : (.selects "BundlesOfBids" ⟨"BundlesOfBids", "refuse", "(I)I"⟩ ⟨"BundlesOfBids", "refuse", "(I)I"⟩ : Cond) ∈ tbl := tb_filter (i := 0) (by decide +kernel) rfl
theorem tp_1 : (.selects "BundlesOfBids$Script" ⟨"BundlesOfBids$Script", "isFull", "()Z"⟩ ⟨"BundlesOfBids$Script", "isFull", "()Z"⟩ : Cond) ∈ tbl := tb_filter (i := 1) (by decide +kernel) rfl
theorem tp_2 : (.selects "BundlesOfBids$Script" ⟨"BundlesOfBids$Script", "append", "(I)I"⟩ ⟨"BundlesOfBids$Script", "append", "(I)I"⟩ : Cond) ∈ tbl := tb_filter (i := 2) (by decide +kernel) rfl
theorem tp_3 : (.selects "BundlesOfBids$Script" ⟨"BundlesOfBids$Script", "parse", "()I"⟩ ⟨"BundlesOfBids$Script", "parse", "()I"⟩ : Cond) ∈ tbl := tb_filter (i := 3) (by decide +kernel) rfl
theorem tp_4 : (.selects "BundlesOfBids$Script" ⟨"BundlesOfBids$Script", "readStatement", "()V"⟩ ⟨"BundlesOfBids$Script", "readStatement", "()V"⟩ : Cond) ∈ tbl := tb_filter (i := 4) (by decide +kernel) rfl
theorem tp_5 : (.selects "BundlesOfBids$Script" ⟨"BundlesOfBids$Script", "readWord", "()I"⟩ ⟨"BundlesOfBids$Script", "readWord", "()I"⟩ : Cond) ∈ tbl := tb_filter (i := 5) (by decide +kernel) rfl
theorem tp_6 : (.selects "BundlesOfBids$Script" ⟨"BundlesOfBids$Script", "signHere", "()I"⟩ ⟨"BundlesOfBids$Script", "signHere", "()I"⟩ : Cond) ∈ tbl := tb_filter (i := 6) (by decide +kernel) rfl
theorem tp_7 : (.selects "BundlesOfBids$Script" ⟨"BundlesOfBids$Script", "wordFrom", "(II)I"⟩ ⟨"BundlesOfBids$Script", "wordFrom", "(II)I"⟩ : Cond) ∈ tbl := tb_filter (i := 7) (by decide +kernel) rfl
theorem tp_8 : (.selects "BundlesOfBids$Script" ⟨"BundlesOfBids$Script", "spells", "(Ljava/lang/String;II)Z"⟩ ⟨"BundlesOfBids$Script", "spells", "(Ljava/lang/String;II)Z"⟩ : Cond) ∈ tbl := tb_filter (i := 8) (by decide +kernel) rfl
theorem tp_9 : (.selects "BundlesOfBids$Script" ⟨"BundlesOfBids$Script", "noteFault", "(I)V"⟩ ⟨"BundlesOfBids$Script", "noteFault", "(I)V"⟩ : Cond) ∈ tbl := tb_filter (i := 9) (by decide +kernel) rfl
theorem tp_10 : (.selects "BundlesOfBids$Script" ⟨"BundlesOfBids$Script", "readSign", "(I)V"⟩ ⟨"BundlesOfBids$Script", "readSign", "(I)V"⟩ : Cond) ∈ tbl := tb_filter (i := 10) (by decide +kernel) rfl
theorem tp_11 : (.selects "BundlesOfBids$Script" ⟨"BundlesOfBids$Script", "readItem", "()I"⟩ ⟨"BundlesOfBids$Script", "readItem", "()I"⟩ : Cond) ∈ tbl := tb_filter (i := 11) (by decide +kernel) rfl
theorem tp_12 : (.selects "BundlesOfBids$Script" ⟨"BundlesOfBids$Script", "readNumber", "()I"⟩ ⟨"BundlesOfBids$Script", "readNumber", "()I"⟩ : Cond) ∈ tbl := tb_filter (i := 12) (by decide +kernel) rfl
theorem tp_13 : (.selects "BundlesOfBids$Script" ⟨"BundlesOfBids$Script", "readSet", "()I"⟩ ⟨"BundlesOfBids$Script", "readSet", "()I"⟩ : Cond) ∈ tbl := tb_filter (i := 13) (by decide +kernel) rfl
theorem tp_14 : (.selects "BundlesOfBids" ⟨"BundlesOfBids", "obeyScript", "()I"⟩ ⟨"BundlesOfBids", "obeyScript", "()I"⟩ : Cond) ∈ tbl := tb_filter (i := 14) (by decide +kernel) rfl
theorem tp_15 : (.selects "BundlesOfBids$Sale" ⟨"BundlesOfBids$Sale", "takeFrom", "(LBundlesOfBids$Sale;)V"⟩ ⟨"BundlesOfBids$Sale", "takeFrom", "(LBundlesOfBids$Sale;)V"⟩ : Cond) ∈ tbl := tb_filter (i := 15) (by decide +kernel) rfl
theorem tp_16 : (.selects "BundlesOfBids$Script" ⟨"BundlesOfBids$Script", "obey", "(LBundlesOfBids$Sale;)I"⟩ ⟨"BundlesOfBids$Script", "obey", "(LBundlesOfBids$Sale;)I"⟩ : Cond) ∈ tbl := tb_filter (i := 16) (by decide +kernel) rfl
theorem tp_17 : (.selects "BundlesOfBids$Script" ⟨"BundlesOfBids$Script", "isRight", "(LBundlesOfBids$Sale;I)Z"⟩ ⟨"BundlesOfBids$Script", "isRight", "(LBundlesOfBids$Sale;I)Z"⟩ : Cond) ∈ tbl := tb_filter (i := 17) (by decide +kernel) rfl
theorem tp_18 : (.selects "BundlesOfBids$Sale" ⟨"BundlesOfBids$Sale", "isFull", "()Z"⟩ ⟨"BundlesOfBids$Sale", "isFull", "()Z"⟩ : Cond) ∈ tbl := tb_filter (i := 18) (by decide +kernel) rfl
theorem tp_19 : (.selects "BundlesOfBids$Sale" ⟨"BundlesOfBids$Sale", "hasBid", "(I)Z"⟩ ⟨"BundlesOfBids$Sale", "hasBid", "(I)Z"⟩ : Cond) ∈ tbl := tb_filter (i := 19) (by decide +kernel) rfl
theorem tp_20 : (.selects "BundlesOfBids$Sale" ⟨"BundlesOfBids$Sale", "addBid", "(III)V"⟩ ⟨"BundlesOfBids$Sale", "addBid", "(III)V"⟩ : Cond) ∈ tbl := tb_filter (i := 20) (by decide +kernel) rfl
theorem tp_21 : (.selects "BundlesOfBids$Sale" ⟨"BundlesOfBids$Sale", "turnOver", "(I)V"⟩ ⟨"BundlesOfBids$Sale", "turnOver", "(I)V"⟩ : Cond) ∈ tbl := tb_filter (i := 21) (by decide +kernel) rfl
theorem tp_22 : (.selects "BundlesOfBids$Sale" ⟨"BundlesOfBids$Sale", "setKind", "(III)V"⟩ ⟨"BundlesOfBids$Sale", "setKind", "(III)V"⟩ : Cond) ∈ tbl := tb_filter (i := 22) (by decide +kernel) rfl
theorem tp_23 : (.selects "BundlesOfBids$Sale" ⟨"BundlesOfBids$Sale", "setReserve", "(II)V"⟩ ⟨"BundlesOfBids$Sale", "setReserve", "(II)V"⟩ : Cond) ∈ tbl := tb_filter (i := 23) (by decide +kernel) rfl
theorem tp_24 : (.selects "BundlesOfBids$Sale" ⟨"BundlesOfBids$Sale", "setPrice", "(II)V"⟩ ⟨"BundlesOfBids$Sale", "setPrice", "(II)V"⟩ : Cond) ∈ tbl := tb_filter (i := 24) (by decide +kernel) rfl
theorem tp_25 : (.selects "BundlesOfBids$Script" ⟨"BundlesOfBids$Script", "forget", "()V"⟩ ⟨"BundlesOfBids$Script", "forget", "()V"⟩ : Cond) ∈ tbl := tb_filter (i := 25) (by decide +kernel) rfl
theorem tp_26 : (.selects "BundlesOfBids$Sale" ⟨"BundlesOfBids$Sale", "priceOf", "(I)I"⟩ ⟨"BundlesOfBids$Sale", "priceOf", "(I)I"⟩ : Cond) ∈ tbl := tb_filter (i := 26) (by decide +kernel) rfl
theorem tp_27 : (.selects "BundlesOfBids$Sale" ⟨"BundlesOfBids$Sale", "kindOf", "(I)I"⟩ ⟨"BundlesOfBids$Sale", "kindOf", "(I)I"⟩ : Cond) ∈ tbl := tb_filter (i := 27) (by decide +kernel) rfl
theorem tp_28 : (.selects "BundlesOfBids$Sale" ⟨"BundlesOfBids$Sale", "figureOf", "(I)I"⟩ ⟨"BundlesOfBids$Sale", "figureOf", "(I)I"⟩ : Cond) ∈ tbl := tb_filter (i := 28) (by decide +kernel) rfl
theorem tp_29 : (.selects "BundlesOfBids$Sale" ⟨"BundlesOfBids$Sale", "reserveOf", "(I)I"⟩ ⟨"BundlesOfBids$Sale", "reserveOf", "(I)I"⟩ : Cond) ∈ tbl := tb_filter (i := 29) (by decide +kernel) rfl
theorem tp_30 : (.selects "BundlesOfBids$Sale" ⟨"BundlesOfBids$Sale", "bidderOf", "(I)I"⟩ ⟨"BundlesOfBids$Sale", "bidderOf", "(I)I"⟩ : Cond) ∈ tbl := tb_filter (i := 30) (by decide +kernel) rfl
theorem tp_31 : (.selects "BundlesOfBids$Sale" ⟨"BundlesOfBids$Sale", "setOf", "(I)I"⟩ ⟨"BundlesOfBids$Sale", "setOf", "(I)I"⟩ : Cond) ∈ tbl := tb_filter (i := 31) (by decide +kernel) rfl
theorem tp_32 : (.selects "BundlesOfBids" ⟨"BundlesOfBids", "winnersOf", "(LBundlesOfBids$Sale;)I"⟩ ⟨"BundlesOfBids", "winnersOf", "(LBundlesOfBids$Sale;)I"⟩ : Cond) ∈ tbl := tb_filter (i := 32) (by decide +kernel) rfl
theorem tp_33 : (.selects "BundlesOfBids$Outcomes" ⟨"BundlesOfBids$Outcomes", "gather", "(LBundlesOfBids$Sale;)V"⟩ ⟨"BundlesOfBids$Outcomes", "gather", "(LBundlesOfBids$Sale;)V"⟩ : Cond) ∈ tbl := tb_filter (i := 33) (by decide +kernel) rfl
theorem tp_34 : (.selects "BundlesOfBids$Outcomes" ⟨"BundlesOfBids$Outcomes", "gatherPacks", "(LBundlesOfBids$Sale;)V"⟩ ⟨"BundlesOfBids$Outcomes", "gatherPacks", "(LBundlesOfBids$Sale;)V"⟩ : Cond) ∈ tbl := tb_filter (i := 34) (by decide +kernel) rfl
theorem tp_35 : (.selects "BundlesOfBids$Sale" ⟨"BundlesOfBids$Sale", "reservesBut", "(I)I"⟩ ⟨"BundlesOfBids$Sale", "reservesBut", "(I)I"⟩ : Cond) ∈ tbl := tb_filter (i := 35) (by decide +kernel) rfl
theorem tp_36 : (.selects "BundlesOfBids$Outcomes" ⟨"BundlesOfBids$Outcomes", "addPack", "(III)V"⟩ ⟨"BundlesOfBids$Outcomes", "addPack", "(III)V"⟩ : Cond) ∈ tbl := tb_filter (i := 36) (by decide +kernel) rfl
theorem tp_37 : (.selects "BundlesOfBids$Sale" ⟨"BundlesOfBids$Sale", "allows", "(I)Z"⟩ ⟨"BundlesOfBids$Sale", "allows", "(I)Z"⟩ : Cond) ∈ tbl := tb_filter (i := 37) (by decide +kernel) rfl
theorem tp_38 : (.selects "BundlesOfBids$Sale" ⟨"BundlesOfBids$Sale", "mayWin", "(III)Z"⟩ ⟨"BundlesOfBids$Sale", "mayWin", "(III)Z"⟩ : Cond) ∈ tbl := tb_filter (i := 38) (by decide +kernel) rfl
theorem tp_39 : (.selects "BundlesOfBids$Sale" ⟨"BundlesOfBids$Sale", "pricesOf", "(I)I"⟩ ⟨"BundlesOfBids$Sale", "pricesOf", "(I)I"⟩ : Cond) ∈ tbl := tb_filter (i := 39) (by decide +kernel) rfl
theorem tp_40 : (.selects "BundlesOfBids$Sale" ⟨"BundlesOfBids$Sale", "itemsOf", "(I)I"⟩ ⟨"BundlesOfBids$Sale", "itemsOf", "(I)I"⟩ : Cond) ∈ tbl := tb_filter (i := 40) (by decide +kernel) rfl
theorem tp_41 : (.selects "BundlesOfBids$Outcomes" ⟨"BundlesOfBids$Outcomes", "first", "(I)I"⟩ ⟨"BundlesOfBids$Outcomes", "first", "(I)I"⟩ : Cond) ∈ tbl := tb_filter (i := 41) (by decide +kernel) rfl
theorem tp_42 : (.selects "BundlesOfBids$Outcomes" ⟨"BundlesOfBids$Outcomes", "keyAt", "(I)I"⟩ ⟨"BundlesOfBids$Outcomes", "keyAt", "(I)I"⟩ : Cond) ∈ tbl := tb_filter (i := 42) (by decide +kernel) rfl
theorem tp_43 : (.selects "BundlesOfBids$Search" ⟨"BundlesOfBids$Search", "lineUp", "(LBundlesOfBids$Sale;)V"⟩ ⟨"BundlesOfBids$Search", "lineUp", "(LBundlesOfBids$Sale;)V"⟩ : Cond) ∈ tbl := tb_filter (i := 43) (by decide +kernel) rfl
theorem tp_44 : (.selects "BundlesOfBids$Search" ⟨"BundlesOfBids$Search", "insert", "(I)V"⟩ ⟨"BundlesOfBids$Search", "insert", "(I)V"⟩ : Cond) ∈ tbl := tb_filter (i := 44) (by decide +kernel) rfl
theorem tp_45 : (.selects "BundlesOfBids$Search" ⟨"BundlesOfBids$Search", "shareOf", "(I)I"⟩ ⟨"BundlesOfBids$Search", "shareOf", "(I)I"⟩ : Cond) ∈ tbl := tb_filter (i := 45) (by decide +kernel) rfl
theorem tp_46 : (.selects "BundlesOfBids$Search" ⟨"BundlesOfBids$Search", "placeOf", "(I)I"⟩ ⟨"BundlesOfBids$Search", "placeOf", "(I)I"⟩ : Cond) ∈ tbl := tb_filter (i := 46) (by decide +kernel) rfl
theorem tp_47 : (.selects "BundlesOfBids$Search" ⟨"BundlesOfBids$Search", "bidAt", "(I)I"⟩ ⟨"BundlesOfBids$Search", "bidAt", "(I)I"⟩ : Cond) ∈ tbl := tb_filter (i := 47) (by decide +kernel) rfl
theorem tp_48 : (.selects "BundlesOfBids$Sale" ⟨"BundlesOfBids$Sale", "bidsOfGroup", "(I)I"⟩ ⟨"BundlesOfBids$Sale", "bidsOfGroup", "(I)I"⟩ : Cond) ∈ tbl := tb_filter (i := 48) (by decide +kernel) rfl
theorem tp_49 : (.selects "BundlesOfBids" ⟨"BundlesOfBids", "charge", "(LBundlesOfBids$Sale;)V"⟩ ⟨"BundlesOfBids", "charge", "(LBundlesOfBids$Sale;)V"⟩ : Cond) ∈ tbl := tb_filter (i := 49) (by decide +kernel) rfl
theorem tp_50 : (.selects "BundlesOfBids$Bill" ⟨"BundlesOfBids$Bill", "charge", "(LBundlesOfBids$Sale;LBundlesOfBids$Outcomes;)V"⟩ ⟨"BundlesOfBids$Bill", "charge", "(LBundlesOfBids$Sale;LBundlesOfBids$Outcomes;)V"⟩ : Cond) ∈ tbl := tb_filter (i := 50) (by decide +kernel) rfl
theorem tp_51 : (.selects "BundlesOfBids$Bill" ⟨"BundlesOfBids$Bill", "harmBy", "(LBundlesOfBids$Sale;LBundlesOfBids$Outcomes;I)I"⟩ ⟨"BundlesOfBids$Bill", "harmBy", "(LBundlesOfBids$Sale;LBundlesOfBids$Outcomes;I)I"⟩ : Cond) ∈ tbl := tb_filter (i := 51) (by decide +kernel) rfl
theorem tp_52 : (.selects "BundlesOfBids" ⟨"BundlesOfBids", "areBids", "(I)Z"⟩ ⟨"BundlesOfBids", "areBids", "(I)Z"⟩ : Cond) ∈ tbl := tb_filter (i := 52) (by decide +kernel) rfl
theorem tp_53 : (.selects "BundlesOfBids$Outcomes" ⟨"BundlesOfBids$Outcomes", "has", "(I)Z"⟩ ⟨"BundlesOfBids$Outcomes", "has", "(I)Z"⟩ : Cond) ∈ tbl := tb_filter (i := 53) (by decide +kernel) rfl
theorem tp_54 : (.selects "BundlesOfBids" ⟨"BundlesOfBids", "worthOf", "(LBundlesOfBids$Sale;)I"⟩ ⟨"BundlesOfBids", "worthOf", "(LBundlesOfBids$Sale;)I"⟩ : Cond) ∈ tbl := tb_filter (i := 54) (by decide +kernel) rfl
theorem tp_55 : (.selects "BundlesOfBids$Search" ⟨"BundlesOfBids$Search", "branchesOf", "(LBundlesOfBids$Sale;)I"⟩ ⟨"BundlesOfBids$Search", "branchesOf", "(LBundlesOfBids$Sale;)I"⟩ : Cond) ∈ tbl := tb_filter (i := 55) (by decide +kernel) rfl
theorem tp_56 : (.selects "BundlesOfBids$Search" ⟨"BundlesOfBids$Search", "bound", "(LBundlesOfBids$Sale;II)I"⟩ ⟨"BundlesOfBids$Search", "bound", "(LBundlesOfBids$Sale;II)I"⟩ : Cond) ∈ tbl := tb_filter (i := 56) (by decide +kernel) rfl
theorem tp_57 : (.selects "BundlesOfBids$Search" ⟨"BundlesOfBids$Search", "mostFor", "(LBundlesOfBids$Sale;II)I"⟩ ⟨"BundlesOfBids$Search", "mostFor", "(LBundlesOfBids$Sale;II)I"⟩ : Cond) ∈ tbl := tb_filter (i := 57) (by decide +kernel) rfl
theorem tp_58 : (.selects "BundlesOfBids$Search" ⟨"BundlesOfBids$Search", "find", "(LBundlesOfBids$Sale;I)V"⟩ ⟨"BundlesOfBids$Search", "find", "(LBundlesOfBids$Sale;I)V"⟩ : Cond) ∈ tbl := tb_filter (i := 58) (by decide +kernel) rfl
theorem tp_59 : (.selects "BundlesOfBids$Outcomes" ⟨"BundlesOfBids$Outcomes", "ranked", "(I)I"⟩ ⟨"BundlesOfBids$Outcomes", "ranked", "(I)I"⟩ : Cond) ∈ tbl := tb_filter (i := 59) (by decide +kernel) rfl
theorem tp_60 : (.selects "BundlesOfBids$Outcomes" ⟨"BundlesOfBids$Outcomes", "nextAbove", "(I)I"⟩ ⟨"BundlesOfBids$Outcomes", "nextAbove", "(I)I"⟩ : Cond) ∈ tbl := tb_filter (i := 60) (by decide +kernel) rfl
theorem tp_61 : (.selects "BundlesOfBids$Sale" ⟨"BundlesOfBids$Sale", "holders", "(I)I"⟩ ⟨"BundlesOfBids$Sale", "holders", "(I)I"⟩ : Cond) ∈ tbl := tb_filter (i := 61) (by decide +kernel) rfl
theorem tp_62 : (.selects "BundlesOfBids" ⟨"BundlesOfBids", "scarcity", "(I)I"⟩ ⟨"BundlesOfBids", "scarcity", "(I)I"⟩ : Cond) ∈ tbl := tb_filter (i := 62) (by decide +kernel) rfl
theorem tp_63 : (.selects "BundlesOfBids" ⟨"BundlesOfBids", "chargeAndLift", "()V"⟩ ⟨"BundlesOfBids", "chargeAndLift", "()V"⟩ : Cond) ∈ tbl := tb_filter (i := 63) (by decide +kernel) rfl
theorem tp_64 : (.selects "BundlesOfBids$Bill" ⟨"BundlesOfBids$Bill", "lift", "(LBundlesOfBids$Sale;LBundlesOfBids$Outcomes;)V"⟩ ⟨"BundlesOfBids$Bill", "lift", "(LBundlesOfBids$Sale;LBundlesOfBids$Outcomes;)V"⟩ : Cond) ∈ tbl := tb_filter (i := 64) (by decide +kernel) rfl
theorem tp_65 : (.selects "BundlesOfBids$Bill" ⟨"BundlesOfBids$Bill", "blocker", "([I)I"⟩ ⟨"BundlesOfBids$Bill", "blocker", "([I)I"⟩ : Cond) ∈ tbl := tb_filter (i := 65) (by decide +kernel) rfl
theorem tp_66 : (.selects "BundlesOfBids$Bill" ⟨"BundlesOfBids$Bill", "excess", "([II)I"⟩ ⟨"BundlesOfBids$Bill", "excess", "([II)I"⟩ : Cond) ∈ tbl := tb_filter (i := 66) (by decide +kernel) rfl
theorem tp_67 : (.selects "BundlesOfBids$Bill" ⟨"BundlesOfBids$Bill", "putOnOthers", "(II)V"⟩ ⟨"BundlesOfBids$Bill", "putOnOthers", "(II)V"⟩ : Cond) ∈ tbl := tb_filter (i := 67) (by decide +kernel) rfl
theorem tp_68 : (.selects "BundlesOfBids$Bill" ⟨"BundlesOfBids$Bill", "payment", "(II)I"⟩ ⟨"BundlesOfBids$Bill", "payment", "(II)I"⟩ : Cond) ∈ tbl := tb_filter (i := 68) (by decide +kernel) rfl
theorem tp_69 : (.selects "BundlesOfBids$Bill" ⟨"BundlesOfBids$Bill", "payments", "(I)[I"⟩ ⟨"BundlesOfBids$Bill", "payments", "(I)[I"⟩ : Cond) ∈ tbl := tb_filter (i := 69) (by decide +kernel) rfl
theorem tp_70 : (.selects "BundlesOfBids$Outcomes" ⟨"BundlesOfBids$Outcomes", "mostPrices", "(LBundlesOfBids$Sale;I)I"⟩ ⟨"BundlesOfBids$Outcomes", "mostPrices", "(LBundlesOfBids$Sale;I)I"⟩ : Cond) ∈ tbl := tb_filter (i := 70) (by decide +kernel) rfl
theorem tp_71 : (.selects "BundlesOfBids" ⟨"BundlesOfBids", "shillSurplus", "(I)I"⟩ ⟨"BundlesOfBids", "shillSurplus", "(I)I"⟩ : Cond) ∈ tbl := tb_filter (i := 71) (by decide +kernel) rfl
theorem tp_72 : (.selects "BundlesOfBids" ⟨"BundlesOfBids", "refuseLong", "(I)J"⟩ ⟨"BundlesOfBids", "refuseLong", "(I)J"⟩ : Cond) ∈ tbl := tb_filter (i := 72) (by decide +kernel) rfl
theorem tp_73 : (.selects "BundlesOfBids$Bill" ⟨"BundlesOfBids$Bill", "happy", "()I"⟩ ⟨"BundlesOfBids$Bill", "happy", "()I"⟩ : Cond) ∈ tbl := tb_filter (i := 73) (by decide +kernel) rfl
theorem tp_74 : (.selects "BundlesOfBids$Print" ⟨"BundlesOfBids$Print", "putWinners", "(LBundlesOfBids$Sale;II)V"⟩ ⟨"BundlesOfBids$Print", "putWinners", "(LBundlesOfBids$Sale;II)V"⟩ : Cond) ∈ tbl := tb_filter (i := 74) (by decide +kernel) rfl
theorem tp_75 : (.selects "BundlesOfBids$Print" ⟨"BundlesOfBids$Print", "put", "(I)V"⟩ ⟨"BundlesOfBids$Print", "put", "(I)V"⟩ : Cond) ∈ tbl := tb_filter (i := 75) (by decide +kernel) rfl
theorem tp_76 : (.selects "BundlesOfBids$Print" ⟨"BundlesOfBids$Print", "putBid", "(LBundlesOfBids$Sale;I)V"⟩ ⟨"BundlesOfBids$Print", "putBid", "(LBundlesOfBids$Sale;I)V"⟩ : Cond) ∈ tbl := tb_filter (i := 76) (by decide +kernel) rfl
theorem tp_77 : (.selects "BundlesOfBids$Print" ⟨"BundlesOfBids$Print", "putNumber", "(I)V"⟩ ⟨"BundlesOfBids$Print", "putNumber", "(I)V"⟩ : Cond) ∈ tbl := tb_filter (i := 77) (by decide +kernel) rfl
theorem tp_78 : (.selects "BundlesOfBids$Print" ⟨"BundlesOfBids$Print", "signAt", "(I)I"⟩ ⟨"BundlesOfBids$Print", "signAt", "(I)I"⟩ : Cond) ∈ tbl := tb_filter (i := 78) (by decide +kernel) rfl
theorem tp_79 : (.selects "BundlesOfBids" ⟨"BundlesOfBids", "firstWrongTold", "(I)I"⟩ ⟨"BundlesOfBids", "firstWrongTold", "(I)I"⟩ : Cond) ∈ tbl := tb_filter (i := 79) (by decide +kernel) rfl
theorem tp_80 : (.selects "BundlesOfBidsModel" ⟨"BundlesOfBidsModel", "refuses", "(I)I"⟩ ⟨"BundlesOfBidsModel", "refuses", "(I)I"⟩ : Cond) ∈ tbl := tb_filter (i := 80) (by decide +kernel) rfl
theorem tp_81 : (.selects "BundlesOfBidsModel" ⟨"BundlesOfBidsModel", "rowNow", "()[I"⟩ ⟨"BundlesOfBidsModel", "rowNow", "()[I"⟩ : Cond) ∈ tbl := tb_filter (i := 81) (by decide +kernel) rfl
theorem tp_82 : (.selects "BundlesOfBidsModel" ⟨"BundlesOfBidsModel", "statement", "()I"⟩ ⟨"BundlesOfBidsModel", "statement", "()I"⟩ : Cond) ∈ tbl := tb_filter (i := 82) (by decide +kernel) rfl
theorem tp_83 : (.selects "BundlesOfBidsModel" ⟨"BundlesOfBidsModel", "word", "()I"⟩ ⟨"BundlesOfBidsModel", "word", "()I"⟩ : Cond) ∈ tbl := tb_filter (i := 83) (by decide +kernel) rfl
theorem tp_84 : (.selects "BundlesOfBidsModel" ⟨"BundlesOfBidsModel", "isLetter", "()Z"⟩ ⟨"BundlesOfBidsModel", "isLetter", "()Z"⟩ : Cond) ∈ tbl := tb_filter (i := 84) (by decide +kernel) rfl
theorem tp_85 : (.selects "BundlesOfBidsModel" ⟨"BundlesOfBidsModel", "isWord", "(Ljava/lang/String;II)Z"⟩ ⟨"BundlesOfBidsModel", "isWord", "(Ljava/lang/String;II)Z"⟩ : Cond) ∈ tbl := tb_filter (i := 85) (by decide +kernel) rfl
theorem tp_86 : (.selects "BundlesOfBidsModel" ⟨"BundlesOfBidsModel", "isNext", "(I)Z"⟩ ⟨"BundlesOfBidsModel", "isNext", "(I)Z"⟩ : Cond) ∈ tbl := tb_filter (i := 86) (by decide +kernel) rfl
theorem tp_87 : (.selects "BundlesOfBidsModel" ⟨"BundlesOfBidsModel", "part", "(I)Z"⟩ ⟨"BundlesOfBidsModel", "part", "(I)Z"⟩ : Cond) ∈ tbl := tb_filter (i := 87) (by decide +kernel) rfl
theorem tp_88 : (.selects "BundlesOfBidsModel" ⟨"BundlesOfBidsModel", "isDigit", "()Z"⟩ ⟨"BundlesOfBidsModel", "isDigit", "()Z"⟩ : Cond) ∈ tbl := tb_filter (i := 88) (by decide +kernel) rfl
theorem tp_89 : (.selects "BundlesOfBidsModel" ⟨"BundlesOfBidsModel", "faults", "(I[I)I"⟩ ⟨"BundlesOfBidsModel", "faults", "(I[I)I"⟩ : Cond) ∈ tbl := tb_filter (i := 89) (by decide +kernel) rfl
theorem tp_90 : (.selects "BundlesOfBidsModel" ⟨"BundlesOfBidsModel", "layBack", "([I)V"⟩ ⟨"BundlesOfBidsModel", "layBack", "([I)V"⟩ : Cond) ∈ tbl := tb_filter (i := 90) (by decide +kernel) rfl
theorem tp_91 : (.selects "BundlesOfBidsModel" ⟨"BundlesOfBidsModel", "fits", "(I)Z"⟩ ⟨"BundlesOfBidsModel", "fits", "(I)Z"⟩ : Cond) ∈ tbl := tb_filter (i := 91) (by decide +kernel) rfl
theorem tp_92 : (.selects "BundlesOfBidsModel" ⟨"BundlesOfBidsModel", "comes", "(I)V"⟩ ⟨"BundlesOfBidsModel", "comes", "(I)V"⟩ : Cond) ∈ tbl := tb_filter (i := 92) (by decide +kernel) rfl
theorem tp_93 : (.selects "BundlesOfBidsModel" ⟨"BundlesOfBidsModel", "isBid", "(I)Z"⟩ ⟨"BundlesOfBidsModel", "isBid", "(I)Z"⟩ : Cond) ∈ tbl := tb_filter (i := 93) (by decide +kernel) rfl
theorem tp_94 : (.selects "BundlesOfBidsModel" ⟨"BundlesOfBidsModel", "winnersNow", "()I"⟩ ⟨"BundlesOfBidsModel", "winnersNow", "()I"⟩ : Cond) ∈ tbl := tb_filter (i := 94) (by decide +kernel) rfl
theorem tp_95 : (.selects "BundlesOfBidsModel" ⟨"BundlesOfBidsModel", "winnersOf", "(I)I"⟩ ⟨"BundlesOfBidsModel", "winnersOf", "(I)I"⟩ : Cond) ∈ tbl := tb_filter (i := 95) (by decide +kernel) rfl
theorem tp_96 : (.selects "BundlesOfBidsModel" ⟨"BundlesOfBidsModel", "table", "()V"⟩ ⟨"BundlesOfBidsModel", "table", "()V"⟩ : Cond) ∈ tbl := tb_filter (i := 96) (by decide +kernel) rfl
theorem tp_97 : (.selects "BundlesOfBidsModel" ⟨"BundlesOfBidsModel", "tabulates", "()V"⟩ ⟨"BundlesOfBidsModel", "tabulates", "()V"⟩ : Cond) ∈ tbl := tb_filter (i := 97) (by decide +kernel) rfl
theorem tp_98 : (.selects "BundlesOfBidsModel" ⟨"BundlesOfBidsModel", "findOwn", "()V"⟩ ⟨"BundlesOfBidsModel", "findOwn", "()V"⟩ : Cond) ∈ tbl := tb_filter (i := 98) (by decide +kernel) rfl
theorem tp_99 : (.selects "BundlesOfBidsModel" ⟨"BundlesOfBidsModel", "itemsOf", "(I)I"⟩ ⟨"BundlesOfBidsModel", "itemsOf", "(I)I"⟩ : Cond) ∈ tbl := tb_filter (i := 99) (by decide +kernel) rfl
theorem tp_100 : (.selects "BundlesOfBidsModel" ⟨"BundlesOfBidsModel", "mayWin", "(II)Z"⟩ ⟨"BundlesOfBidsModel", "mayWin", "(II)Z"⟩ : Cond) ∈ tbl := tb_filter (i := 100) (by decide +kernel) rfl
theorem tp_101 : (.selects "BundlesOfBidsModel" ⟨"BundlesOfBidsModel", "worthOf", "(II)I"⟩ ⟨"BundlesOfBidsModel", "worthOf", "(II)I"⟩ : Cond) ∈ tbl := tb_filter (i := 101) (by decide +kernel) rfl
theorem tp_102 : (.selects "BundlesOfBidsModel" ⟨"BundlesOfBidsModel", "isAhead", "(II)Z"⟩ ⟨"BundlesOfBidsModel", "isAhead", "(II)Z"⟩ : Cond) ∈ tbl := tb_filter (i := 102) (by decide +kernel) rfl
theorem tp_103 : (.selects "BundlesOfBidsModel" ⟨"BundlesOfBidsModel", "placeOf", "(I)I"⟩ ⟨"BundlesOfBidsModel", "placeOf", "(I)I"⟩ : Cond) ∈ tbl := tb_filter (i := 103) (by decide +kernel) rfl
theorem tp_104 : (.selects "BundlesOfBidsModel" ⟨"BundlesOfBidsModel", "findOrder", "()V"⟩ ⟨"BundlesOfBidsModel", "findOrder", "()V"⟩ : Cond) ∈ tbl := tb_filter (i := 104) (by decide +kernel) rfl
theorem tp_105 : (.selects "BundlesOfBidsModel" ⟨"BundlesOfBidsModel", "ownNow", "(I)I"⟩ ⟨"BundlesOfBidsModel", "ownNow", "(I)I"⟩ : Cond) ∈ tbl := tb_filter (i := 105) (by decide +kernel) rfl
theorem tp_106 : (.selects "BundlesOfBidsModel" ⟨"BundlesOfBidsModel", "pricesOf", "(I)I"⟩ ⟨"BundlesOfBidsModel", "pricesOf", "(I)I"⟩ : Cond) ∈ tbl := tb_filter (i := 106) (by decide +kernel) rfl
theorem tp_107 : (.selects "BundlesOfBidsModel" ⟨"BundlesOfBidsModel", "harmOf", "(I)I"⟩ ⟨"BundlesOfBidsModel", "harmOf", "(I)I"⟩ : Cond) ∈ tbl := tb_filter (i := 107) (by decide +kernel) rfl
theorem tp_108 : (.selects "BundlesOfBidsModel" ⟨"BundlesOfBidsModel", "bestOf", "(I)I"⟩ ⟨"BundlesOfBidsModel", "bestOf", "(I)I"⟩ : Cond) ∈ tbl := tb_filter (i := 108) (by decide +kernel) rfl
theorem tp_109 : (.selects "BundlesOfBidsModel" ⟨"BundlesOfBidsModel", "looked", "()I"⟩ ⟨"BundlesOfBidsModel", "looked", "()I"⟩ : Cond) ∈ tbl := tb_filter (i := 109) (by decide +kernel) rfl
theorem tp_110 : (.selects "BundlesOfBidsModel" ⟨"BundlesOfBidsModel", "boundOf", "(II)I"⟩ ⟨"BundlesOfBidsModel", "boundOf", "(II)I"⟩ : Cond) ∈ tbl := tb_filter (i := 110) (by decide +kernel) rfl
theorem tp_111 : (.selects "BundlesOfBidsModel" ⟨"BundlesOfBidsModel", "isOutcome", "(I)Z"⟩ ⟨"BundlesOfBidsModel", "isOutcome", "(I)Z"⟩ : Cond) ∈ tbl := tb_filter (i := 111) (by decide +kernel) rfl
theorem tp_112 : (.selects "BundlesOfBidsModel" ⟨"BundlesOfBidsModel", "worthLess", "(I)I"⟩ ⟨"BundlesOfBidsModel", "worthLess", "(I)I"⟩ : Cond) ∈ tbl := tb_filter (i := 112) (by decide +kernel) rfl
theorem tp_113 : (.selects "BundlesOfBidsModel" ⟨"BundlesOfBidsModel", "finds", "(I)V"⟩ ⟨"BundlesOfBidsModel", "finds", "(I)V"⟩ : Cond) ∈ tbl := tb_filter (i := 113) (by decide +kernel) rfl
theorem tp_114 : (.selects "BundlesOfBidsModel" ⟨"BundlesOfBidsModel", "findLifted", "()V"⟩ ⟨"BundlesOfBidsModel", "findLifted", "()V"⟩ : Cond) ∈ tbl := tb_filter (i := 114) (by decide +kernel) rfl
theorem tp_115 : (.selects "BundlesOfBidsModel" ⟨"BundlesOfBidsModel", "findHarm", "()V"⟩ ⟨"BundlesOfBidsModel", "findHarm", "()V"⟩ : Cond) ∈ tbl := tb_filter (i := 115) (by decide +kernel) rfl
theorem tp_116 : (.selects "BundlesOfBidsModel" ⟨"BundlesOfBidsModel", "blocker", "()I"⟩ ⟨"BundlesOfBidsModel", "blocker", "()I"⟩ : Cond) ∈ tbl := tb_filter (i := 116) (by decide +kernel) rfl
theorem tp_117 : (.selects "BundlesOfBidsModel" ⟨"BundlesOfBidsModel", "blocksBy", "(I)I"⟩ ⟨"BundlesOfBidsModel", "blocksBy", "(I)I"⟩ : Cond) ∈ tbl := tb_filter (i := 117) (by decide +kernel) rfl
theorem tp_118 : (.selects "BundlesOfBidsModel" ⟨"BundlesOfBidsModel", "ofGroup", "(I)I"⟩ ⟨"BundlesOfBidsModel", "ofGroup", "(I)I"⟩ : Cond) ∈ tbl := tb_filter (i := 118) (by decide +kernel) rfl
theorem tp_119 : (.selects "BundlesOfBidsModel" ⟨"BundlesOfBidsModel", "together", "([I)I"⟩ ⟨"BundlesOfBidsModel", "together", "([I)I"⟩ : Cond) ∈ tbl := tb_filter (i := 119) (by decide +kernel) rfl
theorem tp_120 : (.selects "BundlesOfBidsModel" ⟨"BundlesOfBidsModel", "winsBy", "(II)Z"⟩ ⟨"BundlesOfBidsModel", "winsBy", "(II)Z"⟩ : Cond) ∈ tbl := tb_filter (i := 120) (by decide +kernel) rfl
theorem tp_121 : (.selects "BundlesOfBidsModel" ⟨"BundlesOfBidsModel", "otherwise", "()I"⟩ ⟨"BundlesOfBidsModel", "otherwise", "()I"⟩ : Cond) ∈ tbl := tb_filter (i := 121) (by decide +kernel) rfl
theorem tp_122 : (.selects "BundlesOfBidsModel" ⟨"BundlesOfBidsModel", "draw", "(I)I"⟩ ⟨"BundlesOfBidsModel", "draw", "(I)I"⟩ : Cond) ∈ tbl := tb_filter (i := 122) (by decide +kernel) rfl
theorem tb_hold {A : Array Value} {s : State} (h : ∀ w ∈ lw_tbl, w.before A s = true) : ∀ w ∈ tbl, w.before A s = true := by
  intro w hw
  rcases List.mem_append.mp hw with hw | hw
  · rcases List.mem_cons.mp hw with rfl | hw
    · exact xsel_ok (n := 4) ⟨by decide +kernel, by decide +kernel⟩ (h _ (tc_6 (List.mem_of_getElem? (i := 102) (by decide +kernel)))) (h _ (tc_6 (List.mem_of_getElem? (i := 145) (by decide +kernel)))) (h _ (tc_6 (List.mem_of_getElem? (i := 146) (by decide +kernel)))) (h _ (tc_7 (List.mem_of_getElem? (i := 55) (by decide +kernel))))
    · rcases List.mem_cons.mp hw with rfl | hw
      · exact xsel_ok (n := 4) ⟨by decide +kernel, by decide +kernel⟩ (h _ (tc_6 (List.mem_of_getElem? (i := 102) (by decide +kernel)))) (h _ (tc_6 (List.mem_of_getElem? (i := 149) (by decide +kernel)))) (h _ (tc_6 (List.mem_of_getElem? (i := 150) (by decide +kernel)))) (h _ (tc_7 (List.mem_of_getElem? (i := 56) (by decide +kernel))))
      · cases hw
  · exact h w (List.mem_filter.mp hw).1
theorem tx_0 : (.selects "java/lang/StringBuilder" ⟨"java/lang/AbstractStringBuilder", "ensureCapacityInternal", "(I)V"⟩ ⟨"java/lang/AbstractStringBuilder", "ensureCapacityInternal", "(I)V"⟩ : Cond) ∈ tbl := List.mem_append_left _ List.mem_cons_self
theorem tx_1 : (.selects "java/lang/StringBuilder" ⟨"java/lang/AbstractStringBuilder", "newCapacity", "(I)I"⟩ ⟨"java/lang/AbstractStringBuilder", "newCapacity", "(I)I"⟩ : Cond) ∈ tbl := List.mem_append_left _ (List.mem_cons_of_mem _ List.mem_cons_self)
