/-! ===== printed by wip/whole/gen.py: words of the tables ===== -/
theorem kc_tables_1_1 : ∀ w ∈ tables_1_1, w ∈ lw_tbl := fun w h => List.mem_append_right _ (show w ∈ tables_1 from List.mem_append_left _ (h))
theorem kc_tables_1_2 : ∀ w ∈ tables_1_2, w ∈ lw_tbl := fun w h => List.mem_append_right _ (show w ∈ tables_1 from List.mem_append_right _ (List.mem_append_left _ (h)))
theorem kc_tables_1_3 : ∀ w ∈ tables_1_3, w ∈ lw_tbl := fun w h => List.mem_append_right _ (show w ∈ tables_1 from List.mem_append_right _ (List.mem_append_right _ (List.mem_append_left _ (h))))
theorem kc_tables_1_4 : ∀ w ∈ tables_1_4, w ∈ lw_tbl := fun w h => List.mem_append_right _ (show w ∈ tables_1 from List.mem_append_right _ (List.mem_append_right _ (List.mem_append_right _ (List.mem_append_left _ (h)))))
theorem kc_tables_1_5 : ∀ w ∈ tables_1_5, w ∈ lw_tbl := fun w h => List.mem_append_right _ (show w ∈ tables_1 from List.mem_append_right _ (List.mem_append_right _ (List.mem_append_right _ (List.mem_append_right _ (List.mem_append_left _ (h))))))
theorem kc_tables_1_6 : ∀ w ∈ tables_1_6, w ∈ lw_tbl := fun w h => List.mem_append_right _ (show w ∈ tables_1 from List.mem_append_right _ (List.mem_append_right _ (List.mem_append_right _ (List.mem_append_right _ (List.mem_append_right _ (List.mem_append_left _ (h)))))))
theorem kc_tables_1_7 : ∀ w ∈ tables_1_7, w ∈ lw_tbl := fun w h => List.mem_append_right _ (show w ∈ tables_1 from List.mem_append_right _ (List.mem_append_right _ (List.mem_append_right _ (List.mem_append_right _ (List.mem_append_right _ (List.mem_append_right _ (List.mem_append_left _ (h))))))))
theorem kc_tables_1_8 : ∀ w ∈ tables_1_8, w ∈ lw_tbl := fun w h => List.mem_append_right _ (show w ∈ tables_1 from List.mem_append_right _ (List.mem_append_right _ (List.mem_append_right _ (List.mem_append_right _ (List.mem_append_right _ (List.mem_append_right _ (List.mem_append_right _ (h))))))))
theorem kc_lw_privs_1 : ∀ q ∈ lw_privs_1, Cond.selects q.1.cls q.1 q.1 ∈ lw_tbl := fun q h => List.mem_append_left _ (List.mem_map.mpr ⟨q, (show q ∈ lw_privs from List.mem_append_left _ (h)), rfl⟩)
theorem kc_lw_privs_2 : ∀ q ∈ lw_privs_2, Cond.selects q.1.cls q.1 q.1 ∈ lw_tbl := fun q h => List.mem_append_left _ (List.mem_map.mpr ⟨q, (show q ∈ lw_privs from List.mem_append_right _ (List.mem_append_left _ (h))), rfl⟩)
theorem kc_lw_privs_3 : ∀ q ∈ lw_privs_3, Cond.selects q.1.cls q.1 q.1 ∈ lw_tbl := fun q h => List.mem_append_left _ (List.mem_map.mpr ⟨q, (show q ∈ lw_privs from List.mem_append_right _ (List.mem_append_right _ (List.mem_append_left _ (h)))), rfl⟩)
theorem kc_lw_privs_4 : ∀ q ∈ lw_privs_4, Cond.selects q.1.cls q.1 q.1 ∈ lw_tbl := fun q h => List.mem_append_left _ (List.mem_map.mpr ⟨q, (show q ∈ lw_privs from List.mem_append_right _ (List.mem_append_right _ (List.mem_append_right _ (List.mem_append_left _ (h))))), rfl⟩)
theorem kc_lw_privs_5 : ∀ q ∈ lw_privs_5, Cond.selects q.1.cls q.1 q.1 ∈ lw_tbl := fun q h => List.mem_append_left _ (List.mem_map.mpr ⟨q, (show q ∈ lw_privs from List.mem_append_right _ (List.mem_append_right _ (List.mem_append_right _ (List.mem_append_right _ (List.mem_append_left _ (h)))))), rfl⟩)
theorem kc_lw_privs_6 : ∀ q ∈ lw_privs_6, Cond.selects q.1.cls q.1 q.1 ∈ lw_tbl := fun q h => List.mem_append_left _ (List.mem_map.mpr ⟨q, (show q ∈ lw_privs from List.mem_append_right _ (List.mem_append_right _ (List.mem_append_right _ (List.mem_append_right _ (List.mem_append_right _ (List.mem_append_left _ (h))))))), rfl⟩)
theorem kc_lw_privs_7 : ∀ q ∈ lw_privs_7, Cond.selects q.1.cls q.1 q.1 ∈ lw_tbl := fun q h => List.mem_append_left _ (List.mem_map.mpr ⟨q, (show q ∈ lw_privs from List.mem_append_right _ (List.mem_append_right _ (List.mem_append_right _ (List.mem_append_right _ (List.mem_append_right _ (List.mem_append_right _ (List.mem_append_left _ (h)))))))), rfl⟩)
theorem kc_lw_privs_8 : ∀ q ∈ lw_privs_8, Cond.selects q.1.cls q.1 q.1 ∈ lw_tbl := fun q h => List.mem_append_left _ (List.mem_map.mpr ⟨q, (show q ∈ lw_privs from List.mem_append_right _ (List.mem_append_right _ (List.mem_append_right _ (List.mem_append_right _ (List.mem_append_right _ (List.mem_append_right _ (List.mem_append_right _ (h)))))))), rfl⟩)
set_option maxRecDepth 20000 in
theorem kw_0 : Cond.methodLink "KettleChoir$Acts" 3 ⟨"java/lang/Object", "<init>", "()V"⟩ ∈ kt_T := List.mem_filter.mpr ⟨kc_tables_1_1 _ (List.mem_of_getElem? (i := 185) rfl), rfl⟩
set_option maxRecDepth 20000 in
theorem kw_1 : Cond.instanceMethod ⟨"java/lang/Object", "<init>", "()V"⟩ ∈ kt_T := List.mem_filter.mpr ⟨kc_tables_1_1 _ (List.mem_of_getElem? (i := 31) rfl), rfl⟩
set_option maxRecDepth 20000 in
theorem kw_2 : Cond.code ⟨"java/lang/Object", "<init>", "()V"⟩ object_method_1_code 1 none ∈ kt_T := List.mem_filter.mpr ⟨kc_tables_1_1 _ (List.mem_of_getElem? (i := 32) rfl), rfl⟩
set_option maxRecDepth 20000 in
theorem kw_3 : Cond.arrayClass Jvm.ClassFile.FieldType.int ∈ kt_T := List.mem_filter.mpr ⟨kc_tables_1_1 _ (List.mem_of_getElem? (i := 63) rfl), rfl⟩
set_option maxRecDepth 20000 in
theorem kw_4 : Cond.fieldLink "KettleChoir$Acts" 9 "KettleChoir$Acts" "rows" "[I" ∈ kt_T := List.mem_filter.mpr ⟨kc_tables_1_1 _ (List.mem_of_getElem? (i := 186) rfl), rfl⟩
set_option maxRecDepth 20000 in
theorem kw_5 : Cond.initialized "KettleChoir$Acts" ∈ kt_T := List.mem_filter.mpr ⟨kc_tables_1_1 _ (List.mem_of_getElem? (i := 5) rfl), rfl⟩
set_option maxRecDepth 20000 in
theorem kw_6 : Cond.code ⟨"KettleChoir$Acts", "<init>", "()V"⟩ prog_2_method_1_code 1 none ∈ kt_T := List.mem_filter.mpr ⟨kc_tables_1_1 _ (List.mem_of_getElem? (i := 184) rfl), rfl⟩
set_option maxRecDepth 20000 in
theorem kw_7 : Cond.fieldLink "KettleChoir$Acts" 15 "KettleChoir$Acts" "first" "I" ∈ kt_T := List.mem_filter.mpr ⟨kc_tables_1_1 _ (List.mem_of_getElem? (i := 187) rfl), rfl⟩
set_option maxRecDepth 20000 in
theorem kw_8 : Cond.fieldLink "KettleChoir$Acts" 19 "KettleChoir$Acts" "many" "I" ∈ kt_T := List.mem_filter.mpr ⟨kc_tables_1_1 _ (List.mem_of_getElem? (i := 188) rfl), rfl⟩
set_option maxRecDepth 20000 in
theorem kw_9 : Cond.code ⟨"KettleChoir$Acts", "clear", "()V"⟩ prog_2_method_2_code 1 none ∈ kt_T := List.mem_filter.mpr ⟨kc_tables_1_4 _ (List.mem_of_getElem? (i := 55) rfl), rfl⟩
set_option maxRecDepth 20000 in
theorem kw_10 : Cond.methodLink "KettleChoir$Acts" 22 ⟨"java/lang/System", "arraycopy", "(Ljava/lang/Object;ILjava/lang/Object;II)V"⟩ ∈ kt_T := List.mem_filter.mpr ⟨kc_tables_1_2 _ (List.mem_of_getElem? (i := 119) rfl), rfl⟩
set_option maxRecDepth 20000 in
theorem kw_11 : Cond.native ⟨"java/lang/System", "arraycopy", "(Ljava/lang/Object;ILjava/lang/Object;II)V"⟩ ∈ kt_T := List.mem_filter.mpr ⟨kc_tables_1_2 _ (List.mem_of_getElem? (i := 121) rfl), rfl⟩
set_option maxRecDepth 20000 in
theorem kw_12 : Cond.static ⟨"java/lang/System", "arraycopy", "(Ljava/lang/Object;ILjava/lang/Object;II)V"⟩ ∈ kt_T := List.mem_filter.mpr ⟨kc_tables_1_2 _ (List.mem_of_getElem? (i := 120) rfl), rfl⟩
set_option maxRecDepth 20000 in
theorem kw_13 : Cond.initialized "java/lang/System" ∈ kt_T := List.mem_filter.mpr ⟨kc_tables_1_1 _ (List.mem_of_getElem? (i := 20) rfl), rfl⟩
set_option maxRecDepth 20000 in
theorem kw_14 : Cond.code ⟨"KettleChoir$Acts", "push", "([I)V"⟩ prog_2_method_3_code 2 none ∈ kt_T := List.mem_filter.mpr ⟨kc_tables_1_2 _ (List.mem_of_getElem? (i := 118) rfl), rfl⟩
set_option maxRecDepth 20000 in
theorem kw_15 : Cond.code ⟨"KettleChoir$Acts", "pop", "([I)V"⟩ prog_2_method_4_code 2 none ∈ kt_T := List.mem_filter.mpr ⟨kc_tables_1_2 _ (List.mem_of_getElem? (i := 192) rfl), rfl⟩
set_option maxRecDepth 20000 in
theorem kw_16 : Cond.code ⟨"KettleChoir$Acts", "take", "(LKettleChoir$Acts;)V"⟩ prog_2_method_5_code 2 none ∈ kt_T := List.mem_filter.mpr ⟨kc_tables_1_3 _ (List.mem_of_getElem? (i := 17) rfl), rfl⟩
set_option maxRecDepth 20000 in
theorem kw_17 : Cond.methodLink "KettleChoir$Ear" 3 ⟨"java/lang/Object", "<init>", "()V"⟩ ∈ kt_T := List.mem_filter.mpr ⟨kc_tables_1_1 _ (List.mem_of_getElem? (i := 222) rfl), rfl⟩
set_option maxRecDepth 20000 in
theorem kw_18 : Cond.fieldLink "KettleChoir$Ear" 9 "KettleChoir$Ear" "trial" "[I" ∈ kt_T := List.mem_filter.mpr ⟨kc_tables_1_1 _ (List.mem_of_getElem? (i := 223) rfl), rfl⟩
set_option maxRecDepth 20000 in
theorem kw_19 : Cond.arrayClass Jvm.ClassFile.FieldType.long ∈ kt_T := List.mem_filter.mpr ⟨kc_tables_1_2 _ (List.mem_of_getElem? (i := 16) rfl), rfl⟩
set_option maxRecDepth 20000 in
theorem kw_20 : Cond.fieldLink "KettleChoir$Ear" 15 "KettleChoir$Ear" "choir" "[J" ∈ kt_T := List.mem_filter.mpr ⟨kc_tables_1_1 _ (List.mem_of_getElem? (i := 224) rfl), rfl⟩
set_option maxRecDepth 20000 in
theorem kw_21 : Cond.fieldLink "KettleChoir$Ear" 19 "KettleChoir$Ear" "unlike" "[I" ∈ kt_T := List.mem_filter.mpr ⟨kc_tables_1_1 _ (List.mem_of_getElem? (i := 225) rfl), rfl⟩
set_option maxRecDepth 20000 in
theorem kw_22 : Cond.initialized "KettleChoir$Ear" ∈ kt_T := List.mem_filter.mpr ⟨kc_tables_1_1 _ (List.mem_of_getElem? (i := 7) rfl), rfl⟩
set_option maxRecDepth 20000 in
theorem kw_23 : Cond.code ⟨"KettleChoir$Ear", "<init>", "()V"⟩ prog_3_method_1_code 1 none ∈ kt_T := List.mem_filter.mpr ⟨kc_tables_1_1 _ (List.mem_of_getElem? (i := 221) rfl), rfl⟩
set_option maxRecDepth 20000 in
theorem kw_24 : Cond.methodLink "KettleChoir$Ear" 22 ⟨"java/lang/System", "arraycopy", "(Ljava/lang/Object;ILjava/lang/Object;II)V"⟩ ∈ kt_T := List.mem_filter.mpr ⟨kc_tables_1_5 _ (List.mem_of_getElem? (i := 89) rfl), rfl⟩
set_option maxRecDepth 20000 in
theorem kw_25 : Cond.methodLink "KettleChoir$Ear" 28 ⟨"KettleChoir$Ear", "fits", "(LKettleChoir$Kitchen;LKettleChoir$Heard;)Z"⟩ ∈ kt_T := List.mem_filter.mpr ⟨kc_tables_1_5 _ (List.mem_of_getElem? (i := 90) rfl), rfl⟩
set_option maxRecDepth 20000 in
theorem kw_26 : Cond.instanceMethod ⟨"KettleChoir$Ear", "fits", "(LKettleChoir$Kitchen;LKettleChoir$Heard;)Z"⟩ ∈ kt_T := List.mem_filter.mpr ⟨kc_tables_1_5 _ (List.mem_of_getElem? (i := 92) rfl), rfl⟩
set_option maxRecDepth 20000 in
theorem kw_27 : Cond.selects "KettleChoir$Ear" ⟨"KettleChoir$Ear", "fits", "(LKettleChoir$Kitchen;LKettleChoir$Heard;)Z"⟩ ⟨"KettleChoir$Ear", "fits", "(LKettleChoir$Kitchen;LKettleChoir$Heard;)Z"⟩ ∈ kt_T := List.mem_filter.mpr ⟨kc_lw_privs_4 (⟨"KettleChoir$Ear", "fits", "(LKettleChoir$Kitchen;LKettleChoir$Heard;)Z"⟩, 9) (List.mem_of_getElem? (i := 3) rfl), rfl⟩
set_option maxRecDepth 20000 in
theorem kw_28 : Cond.code ⟨"KettleChoir$Ear", "fitsAsItIs", "(LKettleChoir$Kitchen;[ILKettleChoir$Heard;)Z"⟩ prog_3_method_2_code 4 (some .boolean) ∈ kt_T := List.mem_filter.mpr ⟨kc_tables_1_5 _ (List.mem_of_getElem? (i := 88) rfl), rfl⟩
set_option maxRecDepth 20000 in
theorem kw_29 : Cond.fieldLink "KettleChoir$Ear" 32 "KettleChoir$Ear" "known" "Z" ∈ kt_T := List.mem_filter.mpr ⟨kc_tables_1_1 _ (List.mem_of_getElem? (i := 227) rfl), rfl⟩
set_option maxRecDepth 20000 in
theorem kw_30 : Cond.fieldLink "KettleChoir$Ear" 36 "KettleChoir$Ear" "many" "I" ∈ kt_T := List.mem_filter.mpr ⟨kc_tables_1_1 _ (List.mem_of_getElem? (i := 229) rfl), rfl⟩
set_option maxRecDepth 20000 in
theorem kw_31 : Cond.fieldLink "KettleChoir$Ear" 40 "KettleChoir$Ear" "first" "I" ∈ kt_T := List.mem_filter.mpr ⟨kc_tables_1_1 _ (List.mem_of_getElem? (i := 231) rfl), rfl⟩
set_option maxRecDepth 20000 in
theorem kw_32 : Cond.methodLink "KettleChoir$Ear" 43 ⟨"java/util/Arrays", "fill", "([II)V"⟩ ∈ kt_T := List.mem_filter.mpr ⟨kc_tables_1_5 _ (List.mem_of_getElem? (i := 99) rfl), rfl⟩
set_option maxRecDepth 20000 in
theorem kw_33 : Cond.static ⟨"java/util/Arrays", "fill", "([II)V"⟩ ∈ kt_T := List.mem_filter.mpr ⟨kc_tables_1_4 _ (List.mem_of_getElem? (i := 50) rfl), rfl⟩
set_option maxRecDepth 20000 in
theorem kw_34 : Cond.fieldLink "KettleChoir$Ear" 49 "KettleChoir$Kitchen" "kettles" "I" ∈ kt_T := List.mem_filter.mpr ⟨kc_tables_1_1 _ (List.mem_of_getElem? (i := 95) rfl), rfl⟩
set_option maxRecDepth 20000 in
theorem kw_35 : Cond.methodLink "KettleChoir$Ear" 54 ⟨"KettleChoir$Ear", "collect", "()V"⟩ ∈ kt_T := List.mem_filter.mpr ⟨kc_tables_1_5 _ (List.mem_of_getElem? (i := 100) rfl), rfl⟩
set_option maxRecDepth 20000 in
theorem kw_36 : Cond.instanceMethod ⟨"KettleChoir$Ear", "collect", "()V"⟩ ∈ kt_T := List.mem_filter.mpr ⟨kc_tables_1_5 _ (List.mem_of_getElem? (i := 102) rfl), rfl⟩
set_option maxRecDepth 20000 in
theorem kw_37 : Cond.selects "KettleChoir$Ear" ⟨"KettleChoir$Ear", "collect", "()V"⟩ ⟨"KettleChoir$Ear", "collect", "()V"⟩ ∈ kt_T := List.mem_filter.mpr ⟨kc_lw_privs_4 (⟨"KettleChoir$Ear", "collect", "()V"⟩, 9) (List.mem_of_getElem? (i := 4) rfl), rfl⟩
set_option maxRecDepth 20000 in
theorem kw_38 : Cond.methodLink "KettleChoir$Ear" 57 ⟨"KettleChoir$Ear", "chooseMinute", "()V"⟩ ∈ kt_T := List.mem_filter.mpr ⟨kc_tables_1_5 _ (List.mem_of_getElem? (i := 104) rfl), rfl⟩
set_option maxRecDepth 20000 in
theorem kw_39 : Cond.instanceMethod ⟨"KettleChoir$Ear", "chooseMinute", "()V"⟩ ∈ kt_T := List.mem_filter.mpr ⟨kc_tables_1_5 _ (List.mem_of_getElem? (i := 106) rfl), rfl⟩
set_option maxRecDepth 20000 in
theorem kw_40 : Cond.selects "KettleChoir$Ear" ⟨"KettleChoir$Ear", "chooseMinute", "()V"⟩ ⟨"KettleChoir$Ear", "chooseMinute", "()V"⟩ ∈ kt_T := List.mem_filter.mpr ⟨kc_lw_privs_4 (⟨"KettleChoir$Ear", "chooseMinute", "()V"⟩, 9) (List.mem_of_getElem? (i := 5) rfl), rfl⟩
set_option maxRecDepth 20000 in
theorem kw_41 : Cond.code ⟨"KettleChoir$Ear", "search", "(LKettleChoir$Kitchen;[ILKettleChoir$Heard;)V"⟩ prog_3_method_3_code 6 none ∈ kt_T := List.mem_filter.mpr ⟨kc_tables_1_5 _ (List.mem_of_getElem? (i := 98) rfl), rfl⟩
set_option maxRecDepth 20000 in
theorem kw_42 : Cond.methodLink "KettleChoir$Ear" 60 ⟨"KettleChoir$Kitchen", "pass", "([I)V"⟩ ∈ kt_T := List.mem_filter.mpr ⟨kc_tables_1_5 _ (List.mem_of_getElem? (i := 94) rfl), rfl⟩
set_option maxRecDepth 20000 in
theorem kw_43 : Cond.instanceMethod ⟨"KettleChoir$Kitchen", "pass", "([I)V"⟩ ∈ kt_T := List.mem_filter.mpr ⟨kc_tables_1_2 _ (List.mem_of_getElem? (i := 127) rfl), rfl⟩
set_option maxRecDepth 20000 in
theorem kw_44 : Cond.selects "KettleChoir$Kitchen" ⟨"KettleChoir$Kitchen", "pass", "([I)V"⟩ ⟨"KettleChoir$Kitchen", "pass", "([I)V"⟩ ∈ kt_T := List.mem_filter.mpr ⟨kc_tables_1_2 _ (List.mem_of_getElem? (i := 128) rfl), rfl⟩
set_option maxRecDepth 20000 in
theorem kw_45 : Cond.fieldLink "KettleChoir$Ear" 64 "KettleChoir$Kitchen" "notes" "J" ∈ kt_T := List.mem_filter.mpr ⟨kc_tables_1_1 _ (List.mem_of_getElem? (i := 106) rfl), rfl⟩
set_option maxRecDepth 20000 in
theorem kw_46 : Cond.fieldLink "KettleChoir$Ear" 68 "KettleChoir$Heard" "many" "I" ∈ kt_T := List.mem_filter.mpr ⟨kc_tables_1_1 _ (List.mem_of_getElem? (i := 208) rfl), rfl⟩
set_option maxRecDepth 20000 in
theorem kw_47 : Cond.fieldLink "KettleChoir$Ear" 71 "KettleChoir$Heard" "note" "[I" ∈ kt_T := List.mem_filter.mpr ⟨kc_tables_1_1 _ (List.mem_of_getElem? (i := 206) rfl), rfl⟩
set_option maxRecDepth 20000 in
theorem kw_48 : Cond.fieldLink "KettleChoir$Ear" 74 "KettleChoir$Heard" "minute" "[I" ∈ kt_T := List.mem_filter.mpr ⟨kc_tables_1_1 _ (List.mem_of_getElem? (i := 204) rfl), rfl⟩
set_option maxRecDepth 20000 in
theorem kw_49 : Cond.code ⟨"KettleChoir$Ear", "fits", "(LKettleChoir$Kitchen;LKettleChoir$Heard;)Z"⟩ prog_3_method_4_code 8 (some .boolean) ∈ kt_T := List.mem_filter.mpr ⟨kc_tables_1_5 _ (List.mem_of_getElem? (i := 93) rfl), rfl⟩
set_option maxRecDepth 20000 in
theorem kw_50 : Cond.fieldLink "KettleChoir$Ear" 77 "KettleChoir$Ear" "unlikeChoirs" "[J" ∈ kt_T := List.mem_filter.mpr ⟨kc_tables_1_1 _ (List.mem_of_getElem? (i := 226) rfl), rfl⟩
set_option maxRecDepth 20000 in
theorem kw_51 : Cond.code ⟨"KettleChoir$Ear", "collect", "()V"⟩ prog_3_method_5_code 5 none ∈ kt_T := List.mem_filter.mpr ⟨kc_tables_1_5 _ (List.mem_of_getElem? (i := 103) rfl), rfl⟩
set_option maxRecDepth 20000 in
theorem kw_52 : Cond.fieldLink "KettleChoir$Ear" 80 "KettleChoir$Ear" "minute" "I" ∈ kt_T := List.mem_filter.mpr ⟨kc_tables_1_1 _ (List.mem_of_getElem? (i := 233) rfl), rfl⟩
set_option maxRecDepth 20000 in
theorem kw_53 : Cond.fieldLink "KettleChoir$Ear" 82 "KettleChoir$Ear" "choirs" "I" ∈ kt_T := List.mem_filter.mpr ⟨kc_tables_1_1 _ (List.mem_of_getElem? (i := 235) rfl), rfl⟩
set_option maxRecDepth 20000 in
theorem kw_54 : Cond.code ⟨"KettleChoir$Ear", "chooseMinute", "()V"⟩ prog_3_method_6_code 2 none ∈ kt_T := List.mem_filter.mpr ⟨kc_tables_1_5 _ (List.mem_of_getElem? (i := 107) rfl), rfl⟩
set_option maxRecDepth 20000 in
theorem kw_55 : Cond.methodLink "KettleChoir$Heard" 3 ⟨"java/lang/Object", "<init>", "()V"⟩ ∈ kt_T := List.mem_filter.mpr ⟨kc_tables_1_1 _ (List.mem_of_getElem? (i := 202) rfl), rfl⟩
set_option maxRecDepth 20000 in
theorem kw_56 : Cond.fieldLink "KettleChoir$Heard" 9 "KettleChoir$Heard" "minute" "[I" ∈ kt_T := List.mem_filter.mpr ⟨kc_tables_1_1 _ (List.mem_of_getElem? (i := 203) rfl), rfl⟩
set_option maxRecDepth 20000 in
theorem kw_57 : Cond.fieldLink "KettleChoir$Heard" 15 "KettleChoir$Heard" "note" "[I" ∈ kt_T := List.mem_filter.mpr ⟨kc_tables_1_1 _ (List.mem_of_getElem? (i := 205) rfl), rfl⟩
set_option maxRecDepth 20000 in
theorem kw_58 : Cond.initialized "KettleChoir$Heard" ∈ kt_T := List.mem_filter.mpr ⟨kc_tables_1_1 _ (List.mem_of_getElem? (i := 6) rfl), rfl⟩
set_option maxRecDepth 20000 in
theorem kw_59 : Cond.code ⟨"KettleChoir$Heard", "<init>", "()V"⟩ prog_4_method_1_code 1 none ∈ kt_T := List.mem_filter.mpr ⟨kc_tables_1_1 _ (List.mem_of_getElem? (i := 201) rfl), rfl⟩
set_option maxRecDepth 20000 in
theorem kw_60 : Cond.fieldLink "KettleChoir$Heard" 18 "KettleChoir$Heard" "many" "I" ∈ kt_T := List.mem_filter.mpr ⟨kc_tables_1_1 _ (List.mem_of_getElem? (i := 207) rfl), rfl⟩
set_option maxRecDepth 20000 in
theorem kw_61 : Cond.code ⟨"KettleChoir$Heard", "clear", "()V"⟩ prog_4_method_2_code 1 none ∈ kt_T := List.mem_filter.mpr ⟨kc_tables_1_2 _ (List.mem_of_getElem? (i := 221) rfl), rfl⟩
set_option maxRecDepth 20000 in
theorem kw_62 : Cond.code ⟨"KettleChoir$Heard", "add", "(II)V"⟩ prog_4_method_3_code 3 none ∈ kt_T := List.mem_filter.mpr ⟨kc_tables_1_2 _ (List.mem_of_getElem? (i := 213) rfl), rfl⟩
set_option maxRecDepth 20000 in
theorem kw_63 : Cond.methodLink "KettleChoir$Heard" 22 ⟨"java/lang/System", "arraycopy", "(Ljava/lang/Object;ILjava/lang/Object;II)V"⟩ ∈ kt_T := List.mem_filter.mpr ⟨kc_tables_1_3 _ (List.mem_of_getElem? (i := 22) rfl), rfl⟩
set_option maxRecDepth 20000 in
theorem kw_64 : Cond.code ⟨"KettleChoir$Heard", "take", "(LKettleChoir$Heard;)V"⟩ prog_4_method_4_code 2 none ∈ kt_T := List.mem_filter.mpr ⟨kc_tables_1_3 _ (List.mem_of_getElem? (i := 21) rfl), rfl⟩
set_option maxRecDepth 20000 in
theorem kw_65 : Cond.methodLink "KettleChoir$Image" 3 ⟨"java/lang/Object", "<init>", "()V"⟩ ∈ kt_T := List.mem_filter.mpr ⟨kc_tables_1_2 _ (List.mem_of_getElem? (i := 231) rfl), rfl⟩
set_option maxRecDepth 20000 in
theorem kw_66 : Cond.fieldLink "KettleChoir$Image" 9 "KettleChoir$Image" "row" "[I" ∈ kt_T := List.mem_filter.mpr ⟨kc_tables_1_2 _ (List.mem_of_getElem? (i := 236) rfl), rfl⟩
set_option maxRecDepth 20000 in
theorem kw_67 : Cond.classLink "KettleChoir$Image" 15 "KettleChoir$Acts" ∈ kt_T := List.mem_filter.mpr ⟨kc_tables_1_2 _ (List.mem_of_getElem? (i := 232) rfl), rfl⟩
set_option maxRecDepth 20000 in
theorem kw_68 : Cond.instanceMethod ⟨"KettleChoir$Acts", "<init>", "()V"⟩ ∈ kt_T := List.mem_filter.mpr ⟨kc_tables_1_1 _ (List.mem_of_getElem? (i := 183) rfl), rfl⟩
set_option maxRecDepth 20000 in
theorem kw_69 : Cond.fieldLink "KettleChoir$Image" 18 "KettleChoir$Image" "acts" "LKettleChoir$Acts;" ∈ kt_T := List.mem_filter.mpr ⟨kc_tables_1_2 _ (List.mem_of_getElem? (i := 237) rfl), rfl⟩
set_option maxRecDepth 20000 in
theorem kw_70 : Cond.classLink "KettleChoir$Image" 22 "KettleChoir$Heard" ∈ kt_T := List.mem_filter.mpr ⟨kc_tables_1_2 _ (List.mem_of_getElem? (i := 234) rfl), rfl⟩
set_option maxRecDepth 20000 in
theorem kw_71 : Cond.instanceMethod ⟨"KettleChoir$Heard", "<init>", "()V"⟩ ∈ kt_T := List.mem_filter.mpr ⟨kc_tables_1_1 _ (List.mem_of_getElem? (i := 200) rfl), rfl⟩
set_option maxRecDepth 20000 in
theorem kw_72 : Cond.fieldLink "KettleChoir$Image" 25 "KettleChoir$Image" "heard" "LKettleChoir$Heard;" ∈ kt_T := List.mem_filter.mpr ⟨kc_tables_1_2 _ (List.mem_of_getElem? (i := 238) rfl), rfl⟩
set_option maxRecDepth 20000 in
theorem kw_73 : Cond.fieldLink "KettleChoir$Image" 29 "KettleChoir$Image" "status" "[I" ∈ kt_T := List.mem_filter.mpr ⟨kc_tables_1_2 _ (List.mem_of_getElem? (i := 239) rfl), rfl⟩
set_option maxRecDepth 20000 in
theorem kw_74 : Cond.initialized "KettleChoir$Image" ∈ kt_T := List.mem_filter.mpr ⟨kc_tables_1_1 _ (List.mem_of_getElem? (i := 24) rfl), rfl⟩
set_option maxRecDepth 20000 in
theorem kw_75 : Cond.code ⟨"KettleChoir$Image", "<init>", "()V"⟩ prog_5_method_1_code 1 none ∈ kt_T := List.mem_filter.mpr ⟨kc_tables_1_2 _ (List.mem_of_getElem? (i := 230) rfl), rfl⟩
set_option maxRecDepth 20000 in
theorem kw_76 : Cond.methodLink "KettleChoir$Image" 32 ⟨"java/lang/System", "arraycopy", "(Ljava/lang/Object;ILjava/lang/Object;II)V"⟩ ∈ kt_T := List.mem_filter.mpr ⟨kc_tables_1_3 _ (List.mem_of_getElem? (i := 13) rfl), rfl⟩
set_option maxRecDepth 20000 in
theorem kw_77 : Cond.methodLink "KettleChoir$Image" 38 ⟨"KettleChoir$Acts", "take", "(LKettleChoir$Acts;)V"⟩ ∈ kt_T := List.mem_filter.mpr ⟨kc_tables_1_3 _ (List.mem_of_getElem? (i := 14) rfl), rfl⟩
set_option maxRecDepth 20000 in
theorem kw_78 : Cond.instanceMethod ⟨"KettleChoir$Acts", "take", "(LKettleChoir$Acts;)V"⟩ ∈ kt_T := List.mem_filter.mpr ⟨kc_tables_1_3 _ (List.mem_of_getElem? (i := 15) rfl), rfl⟩
set_option maxRecDepth 20000 in
theorem kw_79 : Cond.selects "KettleChoir$Acts" ⟨"KettleChoir$Acts", "take", "(LKettleChoir$Acts;)V"⟩ ⟨"KettleChoir$Acts", "take", "(LKettleChoir$Acts;)V"⟩ ∈ kt_T := List.mem_filter.mpr ⟨kc_tables_1_3 _ (List.mem_of_getElem? (i := 16) rfl), rfl⟩
set_option maxRecDepth 20000 in
theorem kw_80 : Cond.methodLink "KettleChoir$Image" 42 ⟨"KettleChoir$Heard", "take", "(LKettleChoir$Heard;)V"⟩ ∈ kt_T := List.mem_filter.mpr ⟨kc_tables_1_3 _ (List.mem_of_getElem? (i := 18) rfl), rfl⟩
set_option maxRecDepth 20000 in
theorem kw_81 : Cond.instanceMethod ⟨"KettleChoir$Heard", "take", "(LKettleChoir$Heard;)V"⟩ ∈ kt_T := List.mem_filter.mpr ⟨kc_tables_1_3 _ (List.mem_of_getElem? (i := 19) rfl), rfl⟩
set_option maxRecDepth 20000 in
theorem kw_82 : Cond.selects "KettleChoir$Heard" ⟨"KettleChoir$Heard", "take", "(LKettleChoir$Heard;)V"⟩ ⟨"KettleChoir$Heard", "take", "(LKettleChoir$Heard;)V"⟩ ∈ kt_T := List.mem_filter.mpr ⟨kc_tables_1_3 _ (List.mem_of_getElem? (i := 20) rfl), rfl⟩
set_option maxRecDepth 20000 in
theorem kw_83 : Cond.code ⟨"KettleChoir$Image", "keep", "([ILKettleChoir$Acts;LKettleChoir$Heard;[I)V"⟩ prog_5_method_2_code 5 none ∈ kt_T := List.mem_filter.mpr ⟨kc_tables_1_3 _ (List.mem_of_getElem? (i := 12) rfl), rfl⟩
set_option maxRecDepth 20000 in
theorem kw_84 : Cond.code ⟨"KettleChoir$Image", "giveBack", "([ILKettleChoir$Acts;LKettleChoir$Heard;[I)V"⟩ prog_5_method_3_code 5 none ∈ kt_T := List.mem_filter.mpr ⟨kc_tables_1_3 _ (List.mem_of_getElem? (i := 30) rfl), rfl⟩
set_option maxRecDepth 20000 in
theorem kw_85 : Cond.methodLink "KettleChoir$Kitchen" 3 ⟨"java/lang/Object", "<init>", "()V"⟩ ∈ kt_T := List.mem_filter.mpr ⟨kc_tables_1_1 _ (List.mem_of_getElem? (i := 44) rfl), rfl⟩
set_option maxRecDepth 20000 in
theorem kw_86 : Cond.fieldLink "KettleChoir$Kitchen" 9 "KettleChoir$Kitchen" "kind" "[I" ∈ kt_T := List.mem_filter.mpr ⟨kc_tables_1_1 _ (List.mem_of_getElem? (i := 64) rfl), rfl⟩
set_option maxRecDepth 20000 in
theorem kw_87 : Cond.fieldLink "KettleChoir$Kitchen" 15 "KettleChoir$Kitchen" "spout" "[I" ∈ kt_T := List.mem_filter.mpr ⟨kc_tables_1_1 _ (List.mem_of_getElem? (i := 67) rfl), rfl⟩
set_option maxRecDepth 20000 in
theorem kw_88 : Cond.fieldLink "KettleChoir$Kitchen" 18 "KettleChoir$Kitchen" "size" "[I" ∈ kt_T := List.mem_filter.mpr ⟨kc_tables_1_1 _ (List.mem_of_getElem? (i := 70) rfl), rfl⟩
set_option maxRecDepth 20000 in
theorem kw_89 : Cond.fieldLink "KettleChoir$Kitchen" 21 "KettleChoir$Kitchen" "firstFill" "[I" ∈ kt_T := List.mem_filter.mpr ⟨kc_tables_1_1 _ (List.mem_of_getElem? (i := 74) rfl), rfl⟩
set_option maxRecDepth 20000 in
theorem kw_90 : Cond.fieldLink "KettleChoir$Kitchen" 24 "KettleChoir$Kitchen" "firstChalk" "[I" ∈ kt_T := List.mem_filter.mpr ⟨kc_tables_1_1 _ (List.mem_of_getElem? (i := 76) rfl), rfl⟩
set_option maxRecDepth 20000 in
theorem kw_91 : Cond.fieldLink "KettleChoir$Kitchen" 27 "KettleChoir$Kitchen" "power" "[I" ∈ kt_T := List.mem_filter.mpr ⟨kc_tables_1_1 _ (List.mem_of_getElem? (i := 78) rfl), rfl⟩
set_option maxRecDepth 20000 in
theorem kw_92 : Cond.fieldLink "KettleChoir$Kitchen" 30 "KettleChoir$Kitchen" "steps" "[I" ∈ kt_T := List.mem_filter.mpr ⟨kc_tables_1_1 _ (List.mem_of_getElem? (i := 81) rfl), rfl⟩
set_option maxRecDepth 20000 in
theorem kw_93 : Cond.fieldLink "KettleChoir$Kitchen" 33 "KettleChoir$Kitchen" "step" "[I" ∈ kt_T := List.mem_filter.mpr ⟨kc_tables_1_1 _ (List.mem_of_getElem? (i := 86) rfl), rfl⟩
set_option maxRecDepth 20000 in
theorem kw_94 : Cond.classLink "KettleChoir$Kitchen" 36 "KettleChoir$Rule" ∈ kt_T := List.mem_filter.mpr ⟨kc_tables_1_1 _ (List.mem_of_getElem? (i := 45) rfl), rfl⟩
set_option maxRecDepth 20000 in
theorem kw_95 : Cond.instanceMethod ⟨"KettleChoir$Rule", "<init>", "()V"⟩ ∈ kt_T := List.mem_filter.mpr ⟨kc_tables_1_1 _ (List.mem_of_getElem? (i := 48) rfl), rfl⟩
set_option maxRecDepth 20000 in
theorem kw_96 : Cond.fieldLink "KettleChoir$Kitchen" 39 "KettleChoir$Kitchen" "rule" "LKettleChoir$Rule;" ∈ kt_T := List.mem_filter.mpr ⟨kc_tables_1_1 _ (List.mem_of_getElem? (i := 90) rfl), rfl⟩
set_option maxRecDepth 20000 in
theorem kw_97 : Cond.fieldLink "KettleChoir$Kitchen" 43 "KettleChoir$Kitchen" "values" "[I" ∈ kt_T := List.mem_filter.mpr ⟨kc_tables_1_1 _ (List.mem_of_getElem? (i := 92) rfl), rfl⟩
set_option maxRecDepth 20000 in
theorem kw_98 : Cond.initialized "KettleChoir$Kitchen" ∈ kt_T := List.mem_filter.mpr ⟨kc_tables_1_1 _ (List.mem_of_getElem? (i := 3) rfl), rfl⟩
set_option maxRecDepth 20000 in
theorem kw_99 : Cond.code ⟨"KettleChoir$Kitchen", "<init>", "()V"⟩ prog_6_method_1_code 1 none ∈ kt_T := List.mem_filter.mpr ⟨kc_tables_1_1 _ (List.mem_of_getElem? (i := 43) rfl), rfl⟩
set_option maxRecDepth 20000 in
theorem kw_100 : Cond.fieldLink "KettleChoir$Kitchen" 46 "KettleChoir$Kitchen" "kettles" "I" ∈ kt_T := List.mem_filter.mpr ⟨kc_tables_1_1 _ (List.mem_of_getElem? (i := 93) rfl), rfl⟩
set_option maxRecDepth 20000 in
theorem kw_101 : Cond.fieldLink "KettleChoir$Kitchen" 50 "KettleChoir$Kitchen" "stoves" "I" ∈ kt_T := List.mem_filter.mpr ⟨kc_tables_1_1 _ (List.mem_of_getElem? (i := 99) rfl), rfl⟩
set_option maxRecDepth 20000 in
theorem kw_102 : Cond.fieldLink "KettleChoir$Kitchen" 53 "KettleChoir$Kitchen" "dishes" "I" ∈ kt_T := List.mem_filter.mpr ⟨kc_tables_1_1 _ (List.mem_of_getElem? (i := 103) rfl), rfl⟩
set_option maxRecDepth 20000 in
theorem kw_103 : Cond.fieldLink "KettleChoir$Kitchen" 56 "KettleChoir$Rule" "length" "I" ∈ kt_T := List.mem_filter.mpr ⟨kc_tables_1_1 _ (List.mem_of_getElem? (i := 54) rfl), rfl⟩
set_option maxRecDepth 20000 in
theorem kw_104 : Cond.code ⟨"KettleChoir$Kitchen", "clear", "()V"⟩ prog_6_method_2_code 1 none ∈ kt_T := List.mem_filter.mpr ⟨kc_tables_1_3 _ (List.mem_of_getElem? (i := 113) rfl), rfl⟩
set_option maxRecDepth 20000 in
theorem kw_105 : Cond.methodLink "KettleChoir$Kitchen" 59 ⟨"java/lang/System", "arraycopy", "(Ljava/lang/Object;ILjava/lang/Object;II)V"⟩ ∈ kt_T := List.mem_filter.mpr ⟨kc_tables_1_4 _ (List.mem_of_getElem? (i := 39) rfl), rfl⟩
set_option maxRecDepth 20000 in
theorem kw_106 : Cond.methodLink "KettleChoir$Kitchen" 65 ⟨"KettleChoir$Rule", "take", "(LKettleChoir$Rule;)V"⟩ ∈ kt_T := List.mem_filter.mpr ⟨kc_tables_1_4 _ (List.mem_of_getElem? (i := 40) rfl), rfl⟩
set_option maxRecDepth 20000 in
theorem kw_107 : Cond.instanceMethod ⟨"KettleChoir$Rule", "take", "(LKettleChoir$Rule;)V"⟩ ∈ kt_T := List.mem_filter.mpr ⟨kc_tables_1_4 _ (List.mem_of_getElem? (i := 41) rfl), rfl⟩
set_option maxRecDepth 20000 in
theorem kw_108 : Cond.selects "KettleChoir$Rule" ⟨"KettleChoir$Rule", "take", "(LKettleChoir$Rule;)V"⟩ ⟨"KettleChoir$Rule", "take", "(LKettleChoir$Rule;)V"⟩ ∈ kt_T := List.mem_filter.mpr ⟨kc_tables_1_4 _ (List.mem_of_getElem? (i := 42) rfl), rfl⟩
set_option maxRecDepth 20000 in
theorem kw_109 : Cond.code ⟨"KettleChoir$Kitchen", "take", "(LKettleChoir$Kitchen;)V"⟩ prog_6_method_3_code 2 none ∈ kt_T := List.mem_filter.mpr ⟨kc_tables_1_4 _ (List.mem_of_getElem? (i := 38) rfl), rfl⟩
set_option maxRecDepth 20000 in
theorem kw_110 : Cond.methodLink "KettleChoir$Kitchen" 69 ⟨"java/util/Arrays", "fill", "([II)V"⟩ ∈ kt_T := List.mem_filter.mpr ⟨kc_tables_1_4 _ (List.mem_of_getElem? (i := 49) rfl), rfl⟩
set_option maxRecDepth 20000 in
theorem kw_111 : Cond.code ⟨"KettleChoir$Kitchen", "open", "([I)V"⟩ prog_6_method_4_code 3 none ∈ kt_T := List.mem_filter.mpr ⟨kc_tables_1_4 _ (List.mem_of_getElem? (i := 48) rfl), rfl⟩
set_option maxRecDepth 20000 in
theorem kw_112 : Cond.code ⟨"KettleChoir$Kitchen", "kettleOn", "([II)I"⟩ prog_6_method_5_code 4 (some .int) ∈ kt_T := List.mem_filter.mpr ⟨kc_tables_1_4 _ (List.mem_of_getElem? (i := 127) rfl), rfl⟩
set_option maxRecDepth 20000 in
theorem kw_113 : Cond.methodLink "KettleChoir$Kitchen" 75 ⟨"KettleChoir$Kitchen", "warm", "([III)V"⟩ ∈ kt_T := List.mem_filter.mpr ⟨kc_tables_1_2 _ (List.mem_of_getElem? (i := 130) rfl), rfl⟩
set_option maxRecDepth 20000 in
theorem kw_114 : Cond.instanceMethod ⟨"KettleChoir$Kitchen", "warm", "([III)V"⟩ ∈ kt_T := List.mem_filter.mpr ⟨kc_tables_1_2 _ (List.mem_of_getElem? (i := 131) rfl), rfl⟩
set_option maxRecDepth 20000 in
theorem kw_115 : Cond.selects "KettleChoir$Kitchen" ⟨"KettleChoir$Kitchen", "warm", "([III)V"⟩ ⟨"KettleChoir$Kitchen", "warm", "([III)V"⟩ ∈ kt_T := List.mem_filter.mpr ⟨kc_tables_1_2 _ (List.mem_of_getElem? (i := 132) rfl), rfl⟩
set_option maxRecDepth 20000 in
theorem kw_116 : Cond.methodLink "KettleChoir$Kitchen" 79 ⟨"KettleChoir$Kitchen", "sing", "([I)V"⟩ ∈ kt_T := List.mem_filter.mpr ⟨kc_tables_1_2 _ (List.mem_of_getElem? (i := 140) rfl), rfl⟩
set_option maxRecDepth 20000 in
theorem kw_117 : Cond.instanceMethod ⟨"KettleChoir$Kitchen", "sing", "([I)V"⟩ ∈ kt_T := List.mem_filter.mpr ⟨kc_tables_1_2 _ (List.mem_of_getElem? (i := 142) rfl), rfl⟩
set_option maxRecDepth 20000 in
theorem kw_118 : Cond.selects "KettleChoir$Kitchen" ⟨"KettleChoir$Kitchen", "sing", "([I)V"⟩ ⟨"KettleChoir$Kitchen", "sing", "([I)V"⟩ ∈ kt_T := List.mem_filter.mpr ⟨kc_lw_privs_1 (⟨"KettleChoir$Kitchen", "sing", "([I)V"⟩, 15) (List.mem_of_getElem? (i := 2) rfl), rfl⟩
set_option maxRecDepth 20000 in
theorem kw_119 : Cond.methodLink "KettleChoir$Kitchen" 83 ⟨"KettleChoir$Kitchen", "serve", "([I)V"⟩ ∈ kt_T := List.mem_filter.mpr ⟨kc_tables_1_2 _ (List.mem_of_getElem? (i := 156) rfl), rfl⟩
set_option maxRecDepth 20000 in
theorem kw_120 : Cond.instanceMethod ⟨"KettleChoir$Kitchen", "serve", "([I)V"⟩ ∈ kt_T := List.mem_filter.mpr ⟨kc_tables_1_2 _ (List.mem_of_getElem? (i := 158) rfl), rfl⟩
set_option maxRecDepth 20000 in
theorem kw_121 : Cond.selects "KettleChoir$Kitchen" ⟨"KettleChoir$Kitchen", "serve", "([I)V"⟩ ⟨"KettleChoir$Kitchen", "serve", "([I)V"⟩ ∈ kt_T := List.mem_filter.mpr ⟨kc_lw_privs_1 (⟨"KettleChoir$Kitchen", "serve", "([I)V"⟩, 15) (List.mem_of_getElem? (i := 3) rfl), rfl⟩
set_option maxRecDepth 20000 in
theorem kw_122 : Cond.methodLink "KettleChoir$Kitchen" 86 ⟨"KettleChoir$Kitchen", "boil", "([II)V"⟩ ∈ kt_T := List.mem_filter.mpr ⟨kc_tables_1_2 _ (List.mem_of_getElem? (i := 164) rfl), rfl⟩
set_option maxRecDepth 20000 in
theorem kw_123 : Cond.instanceMethod ⟨"KettleChoir$Kitchen", "boil", "([II)V"⟩ ∈ kt_T := List.mem_filter.mpr ⟨kc_tables_1_2 _ (List.mem_of_getElem? (i := 165) rfl), rfl⟩
set_option maxRecDepth 20000 in
theorem kw_124 : Cond.selects "KettleChoir$Kitchen" ⟨"KettleChoir$Kitchen", "boil", "([II)V"⟩ ⟨"KettleChoir$Kitchen", "boil", "([II)V"⟩ ∈ kt_T := List.mem_filter.mpr ⟨kc_tables_1_2 _ (List.mem_of_getElem? (i := 166) rfl), rfl⟩
set_option maxRecDepth 20000 in
theorem kw_125 : Cond.methodLink "KettleChoir$Kitchen" 89 ⟨"KettleChoir$Kitchen", "cook", "([I)V"⟩ ∈ kt_T := List.mem_filter.mpr ⟨kc_tables_1_2 _ (List.mem_of_getElem? (i := 168) rfl), rfl⟩
set_option maxRecDepth 20000 in
theorem kw_126 : Cond.instanceMethod ⟨"KettleChoir$Kitchen", "cook", "([I)V"⟩ ∈ kt_T := List.mem_filter.mpr ⟨kc_tables_1_2 _ (List.mem_of_getElem? (i := 170) rfl), rfl⟩
set_option maxRecDepth 20000 in
theorem kw_127 : Cond.selects "KettleChoir$Kitchen" ⟨"KettleChoir$Kitchen", "cook", "([I)V"⟩ ⟨"KettleChoir$Kitchen", "cook", "([I)V"⟩ ∈ kt_T := List.mem_filter.mpr ⟨kc_lw_privs_1 (⟨"KettleChoir$Kitchen", "cook", "([I)V"⟩, 15) (List.mem_of_getElem? (i := 5) rfl), rfl⟩
set_option maxRecDepth 20000 in
theorem kw_128 : Cond.code ⟨"KettleChoir$Kitchen", "pass", "([I)V"⟩ prog_6_method_6_code 5 none ∈ kt_T := List.mem_filter.mpr ⟨kc_tables_1_2 _ (List.mem_of_getElem? (i := 129) rfl), rfl⟩
set_option maxRecDepth 20000 in
theorem kw_129 : Cond.methodLink "KettleChoir$Kitchen" 92 ⟨"java/lang/Math", "max", "(II)I"⟩ ∈ kt_T := List.mem_filter.mpr ⟨kc_tables_1_2 _ (List.mem_of_getElem? (i := 134) rfl), rfl⟩
set_option maxRecDepth 20000 in
theorem kw_130 : Cond.static ⟨"java/lang/Math", "max", "(II)I"⟩ ∈ kt_T := List.mem_filter.mpr ⟨kc_tables_1_2 _ (List.mem_of_getElem? (i := 135) rfl), rfl⟩
set_option maxRecDepth 20000 in
theorem kw_131 : Cond.initialized "java/lang/Math" ∈ kt_T := List.mem_filter.mpr ⟨kc_tables_1_1 _ (List.mem_of_getElem? (i := 15) rfl), rfl⟩
set_option maxRecDepth 20000 in
theorem kw_132 : Cond.code ⟨"java/lang/Math", "max", "(II)I"⟩ prog_19_method_65_code 2 (some .int) ∈ kt_T := List.mem_filter.mpr ⟨kc_tables_1_2 _ (List.mem_of_getElem? (i := 136) rfl), rfl⟩
set_option maxRecDepth 20000 in
theorem kw_133 : Cond.methodLink "KettleChoir$Kitchen" 98 ⟨"java/lang/Math", "min", "(II)I"⟩ ∈ kt_T := List.mem_filter.mpr ⟨kc_tables_1_2 _ (List.mem_of_getElem? (i := 137) rfl), rfl⟩
set_option maxRecDepth 20000 in
theorem kw_134 : Cond.static ⟨"java/lang/Math", "min", "(II)I"⟩ ∈ kt_T := List.mem_filter.mpr ⟨kc_tables_1_2 _ (List.mem_of_getElem? (i := 138) rfl), rfl⟩
set_option maxRecDepth 20000 in
theorem kw_135 : Cond.code ⟨"java/lang/Math", "min", "(II)I"⟩ prog_19_method_69_code 2 (some .int) ∈ kt_T := List.mem_filter.mpr ⟨kc_tables_1_2 _ (List.mem_of_getElem? (i := 139) rfl), rfl⟩
set_option maxRecDepth 20000 in
theorem kw_136 : Cond.code ⟨"KettleChoir$Kitchen", "warm", "([III)V"⟩ prog_6_method_7_code 6 none ∈ kt_T := List.mem_filter.mpr ⟨kc_tables_1_2 _ (List.mem_of_getElem? (i := 133) rfl), rfl⟩
set_option maxRecDepth 20000 in
theorem kw_137 : Cond.fieldLink "KettleChoir$Kitchen" 101 "KettleChoir$Kitchen" "notes" "J" ∈ kt_T := List.mem_filter.mpr ⟨kc_tables_1_1 _ (List.mem_of_getElem? (i := 107) rfl), rfl⟩
set_option maxRecDepth 20000 in
theorem kw_138 : Cond.fieldLink "KettleChoir$Kitchen" 105 "KettleChoir$Kitchen" "singers" "I" ∈ kt_T := List.mem_filter.mpr ⟨kc_tables_1_1 _ (List.mem_of_getElem? (i := 108) rfl), rfl⟩
set_option maxRecDepth 20000 in
theorem kw_139 : Cond.methodLink "KettleChoir$Kitchen" 108 ⟨"KettleChoir$Kitchen", "voice", "([II)V"⟩ ∈ kt_T := List.mem_filter.mpr ⟨kc_tables_1_2 _ (List.mem_of_getElem? (i := 144) rfl), rfl⟩
set_option maxRecDepth 20000 in
theorem kw_140 : Cond.instanceMethod ⟨"KettleChoir$Kitchen", "voice", "([II)V"⟩ ∈ kt_T := List.mem_filter.mpr ⟨kc_tables_1_2 _ (List.mem_of_getElem? (i := 145) rfl), rfl⟩
set_option maxRecDepth 20000 in
theorem kw_141 : Cond.selects "KettleChoir$Kitchen" ⟨"KettleChoir$Kitchen", "voice", "([II)V"⟩ ⟨"KettleChoir$Kitchen", "voice", "([II)V"⟩ ∈ kt_T := List.mem_filter.mpr ⟨kc_tables_1_2 _ (List.mem_of_getElem? (i := 146) rfl), rfl⟩
set_option maxRecDepth 20000 in
theorem kw_142 : Cond.code ⟨"KettleChoir$Kitchen", "sing", "([I)V"⟩ prog_6_method_8_code 4 none ∈ kt_T := List.mem_filter.mpr ⟨kc_tables_1_2 _ (List.mem_of_getElem? (i := 143) rfl), rfl⟩
set_option maxRecDepth 20000 in
theorem kw_143 : Cond.methodLink "KettleChoir$Kitchen" 111 ⟨"KettleChoir$Kitchen", "couldSing", "([II)Z"⟩ ∈ kt_T := List.mem_filter.mpr ⟨kc_tables_1_2 _ (List.mem_of_getElem? (i := 148) rfl), rfl⟩
set_option maxRecDepth 20000 in
theorem kw_144 : Cond.instanceMethod ⟨"KettleChoir$Kitchen", "couldSing", "([II)Z"⟩ ∈ kt_T := List.mem_filter.mpr ⟨kc_tables_1_2 _ (List.mem_of_getElem? (i := 149) rfl), rfl⟩
set_option maxRecDepth 20000 in
theorem kw_145 : Cond.selects "KettleChoir$Kitchen" ⟨"KettleChoir$Kitchen", "couldSing", "([II)Z"⟩ ⟨"KettleChoir$Kitchen", "couldSing", "([II)Z"⟩ ∈ kt_T := List.mem_filter.mpr ⟨kc_tables_1_2 _ (List.mem_of_getElem? (i := 150) rfl), rfl⟩
set_option maxRecDepth 20000 in
theorem kw_146 : Cond.methodLink "KettleChoir$Kitchen" 115 ⟨"KettleChoir$Kitchen", "noteOf", "(IIII)I"⟩ ∈ kt_T := List.mem_filter.mpr ⟨kc_tables_1_2 _ (List.mem_of_getElem? (i := 152) rfl), rfl⟩
set_option maxRecDepth 20000 in
theorem kw_147 : Cond.instanceMethod ⟨"KettleChoir$Kitchen", "noteOf", "(IIII)I"⟩ ∈ kt_T := List.mem_filter.mpr ⟨kc_tables_1_2 _ (List.mem_of_getElem? (i := 153) rfl), rfl⟩
set_option maxRecDepth 20000 in
theorem kw_148 : Cond.selects "KettleChoir$Kitchen" ⟨"KettleChoir$Kitchen", "noteOf", "(IIII)I"⟩ ⟨"KettleChoir$Kitchen", "noteOf", "(IIII)I"⟩ ∈ kt_T := List.mem_filter.mpr ⟨kc_tables_1_2 _ (List.mem_of_getElem? (i := 154) rfl), rfl⟩
set_option maxRecDepth 20000 in
theorem kw_149 : Cond.code ⟨"KettleChoir$Kitchen", "voice", "([II)V"⟩ prog_6_method_9_code 3 none ∈ kt_T := List.mem_filter.mpr ⟨kc_tables_1_2 _ (List.mem_of_getElem? (i := 147) rfl), rfl⟩
set_option maxRecDepth 20000 in
theorem kw_150 : Cond.code ⟨"KettleChoir$Kitchen", "couldSing", "([II)Z"⟩ prog_6_method_10_code 4 (some .boolean) ∈ kt_T := List.mem_filter.mpr ⟨kc_tables_1_2 _ (List.mem_of_getElem? (i := 151) rfl), rfl⟩
set_option maxRecDepth 20000 in
theorem kw_151 : Cond.code ⟨"KettleChoir$Kitchen", "noteOf", "(IIII)I"⟩ prog_6_method_11_code 6 (some .int) ∈ kt_T := List.mem_filter.mpr ⟨kc_tables_1_2 _ (List.mem_of_getElem? (i := 155) rfl), rfl⟩
set_option maxRecDepth 20000 in
theorem kw_152 : Cond.methodLink "KettleChoir$Kitchen" 119 ⟨"KettleChoir$Kitchen", "sounds", "(I)Z"⟩ ∈ kt_T := List.mem_filter.mpr ⟨kc_tables_1_2 _ (List.mem_of_getElem? (i := 160) rfl), rfl⟩
set_option maxRecDepth 20000 in
theorem kw_153 : Cond.instanceMethod ⟨"KettleChoir$Kitchen", "sounds", "(I)Z"⟩ ∈ kt_T := List.mem_filter.mpr ⟨kc_tables_1_2 _ (List.mem_of_getElem? (i := 162) rfl), rfl⟩
set_option maxRecDepth 20000 in
theorem kw_154 : Cond.selects "KettleChoir$Kitchen" ⟨"KettleChoir$Kitchen", "sounds", "(I)Z"⟩ ⟨"KettleChoir$Kitchen", "sounds", "(I)Z"⟩ ∈ kt_T := List.mem_filter.mpr ⟨kc_lw_privs_1 (⟨"KettleChoir$Kitchen", "sounds", "(I)Z"⟩, 15) (List.mem_of_getElem? (i := 4) rfl), rfl⟩
set_option maxRecDepth 20000 in
theorem kw_155 : Cond.code ⟨"KettleChoir$Kitchen", "serve", "([I)V"⟩ prog_6_method_12_code 3 none ∈ kt_T := List.mem_filter.mpr ⟨kc_tables_1_2 _ (List.mem_of_getElem? (i := 159) rfl), rfl⟩
set_option maxRecDepth 20000 in
theorem kw_156 : Cond.code ⟨"KettleChoir$Kitchen", "sounds", "(I)Z"⟩ prog_6_method_13_code 5 (some .boolean) ∈ kt_T := List.mem_filter.mpr ⟨kc_tables_1_2 _ (List.mem_of_getElem? (i := 163) rfl), rfl⟩
set_option maxRecDepth 20000 in
theorem kw_157 : Cond.code ⟨"KettleChoir$Kitchen", "boil", "([II)V"⟩ prog_6_method_14_code 3 none ∈ kt_T := List.mem_filter.mpr ⟨kc_tables_1_2 _ (List.mem_of_getElem? (i := 167) rfl), rfl⟩
set_option maxRecDepth 20000 in
theorem kw_158 : Cond.methodLink "KettleChoir$Kitchen" 123 ⟨"KettleChoir$Kitchen", "look", "([II)V"⟩ ∈ kt_T := List.mem_filter.mpr ⟨kc_tables_1_2 _ (List.mem_of_getElem? (i := 172) rfl), rfl⟩
set_option maxRecDepth 20000 in
theorem kw_159 : Cond.instanceMethod ⟨"KettleChoir$Kitchen", "look", "([II)V"⟩ ∈ kt_T := List.mem_filter.mpr ⟨kc_tables_1_2 _ (List.mem_of_getElem? (i := 174) rfl), rfl⟩
set_option maxRecDepth 20000 in
theorem kw_160 : Cond.selects "KettleChoir$Kitchen" ⟨"KettleChoir$Kitchen", "look", "([II)V"⟩ ⟨"KettleChoir$Kitchen", "look", "([II)V"⟩ ∈ kt_T := List.mem_filter.mpr ⟨kc_lw_privs_1 (⟨"KettleChoir$Kitchen", "look", "([II)V"⟩, 15) (List.mem_of_getElem? (i := 6) rfl), rfl⟩
set_option maxRecDepth 20000 in
theorem kw_161 : Cond.methodLink "KettleChoir$Kitchen" 126 ⟨"KettleChoir$Rule", "gives", "([I)I"⟩ ∈ kt_T := List.mem_filter.mpr ⟨kc_tables_1_2 _ (List.mem_of_getElem? (i := 177) rfl), rfl⟩
set_option maxRecDepth 20000 in
theorem kw_162 : Cond.instanceMethod ⟨"KettleChoir$Rule", "gives", "([I)I"⟩ ∈ kt_T := List.mem_filter.mpr ⟨kc_tables_1_2 _ (List.mem_of_getElem? (i := 178) rfl), rfl⟩
set_option maxRecDepth 20000 in
theorem kw_163 : Cond.selects "KettleChoir$Rule" ⟨"KettleChoir$Rule", "gives", "([I)I"⟩ ⟨"KettleChoir$Rule", "gives", "([I)I"⟩ ∈ kt_T := List.mem_filter.mpr ⟨kc_tables_1_2 _ (List.mem_of_getElem? (i := 179) rfl), rfl⟩
set_option maxRecDepth 20000 in
theorem kw_164 : Cond.code ⟨"KettleChoir$Kitchen", "cook", "([I)V"⟩ prog_6_method_15_code 3 none ∈ kt_T := List.mem_filter.mpr ⟨kc_tables_1_2 _ (List.mem_of_getElem? (i := 171) rfl), rfl⟩
set_option maxRecDepth 20000 in
theorem kw_165 : Cond.constantLong "KettleChoir$Kitchen" 130 (3 : Int64) ∈ kt_T := List.mem_filter.mpr ⟨kc_tables_1_2 _ (List.mem_of_getElem? (i := 176) rfl), rfl⟩
set_option maxRecDepth 20000 in
theorem kw_166 : Cond.code ⟨"KettleChoir$Kitchen", "look", "([II)V"⟩ prog_6_method_16_code 5 none ∈ kt_T := List.mem_filter.mpr ⟨kc_tables_1_2 _ (List.mem_of_getElem? (i := 175) rfl), rfl⟩
set_option maxRecDepth 20000 in
theorem kw_167 : Cond.methodLink "KettleChoir$Planner" 3 ⟨"java/lang/Object", "<init>", "()V"⟩ ∈ kt_T := List.mem_filter.mpr ⟨kc_tables_1_2 _ (List.mem_of_getElem? (i := 22) rfl), rfl⟩
set_option maxRecDepth 20000 in
theorem kw_168 : Cond.fieldLink "KettleChoir$Planner" 9 "KettleChoir$Planner" "trial" "[I" ∈ kt_T := List.mem_filter.mpr ⟨kc_tables_1_2 _ (List.mem_of_getElem? (i := 23) rfl), rfl⟩
set_option maxRecDepth 20000 in
theorem kw_169 : Cond.fieldLink "KettleChoir$Planner" 15 "KettleChoir$Planner" "tried" "[I" ∈ kt_T := List.mem_filter.mpr ⟨kc_tables_1_2 _ (List.mem_of_getElem? (i := 24) rfl), rfl⟩
set_option maxRecDepth 20000 in
theorem kw_170 : Cond.fieldLink "KettleChoir$Planner" 18 "KettleChoir$Planner" "best" "[I" ∈ kt_T := List.mem_filter.mpr ⟨kc_tables_1_2 _ (List.mem_of_getElem? (i := 25) rfl), rfl⟩
set_option maxRecDepth 20000 in
theorem kw_171 : Cond.fieldLink "KettleChoir$Planner" 21 "KettleChoir$Planner" "known" "I" ∈ kt_T := List.mem_filter.mpr ⟨kc_tables_1_2 _ (List.mem_of_getElem? (i := 29) rfl), rfl⟩
set_option maxRecDepth 20000 in
theorem kw_172 : Cond.initialized "KettleChoir$Planner" ∈ kt_T := List.mem_filter.mpr ⟨kc_tables_1_1 _ (List.mem_of_getElem? (i := 8) rfl), rfl⟩
set_option maxRecDepth 20000 in
theorem kw_173 : Cond.code ⟨"KettleChoir$Planner", "<init>", "()V"⟩ prog_7_method_1_code 1 none ∈ kt_T := List.mem_filter.mpr ⟨kc_tables_1_2 _ (List.mem_of_getElem? (i := 21) rfl), rfl⟩
set_option maxRecDepth 20000 in
theorem kw_174 : Cond.fieldLink "KettleChoir$Planner" 25 "KettleChoir$Planner" "when" "I" ∈ kt_T := List.mem_filter.mpr ⟨kc_tables_1_2 _ (List.mem_of_getElem? (i := 27) rfl), rfl⟩
set_option maxRecDepth 20000 in
theorem kw_175 : Cond.methodLink "KettleChoir$Planner" 28 ⟨"java/util/Arrays", "fill", "([II)V"⟩ ∈ kt_T := List.mem_filter.mpr ⟨kc_tables_1_4 _ (List.mem_of_getElem? (i := 230) rfl), rfl⟩
set_option maxRecDepth 20000 in
theorem kw_176 : Cond.methodLink "KettleChoir$Planner" 34 ⟨"KettleChoir$Planner", "search", "(LKettleChoir$Kitchen;[II)V"⟩ ∈ kt_T := List.mem_filter.mpr ⟨kc_tables_1_4 _ (List.mem_of_getElem? (i := 231) rfl), rfl⟩
set_option maxRecDepth 20000 in
theorem kw_177 : Cond.instanceMethod ⟨"KettleChoir$Planner", "search", "(LKettleChoir$Kitchen;[II)V"⟩ ∈ kt_T := List.mem_filter.mpr ⟨kc_tables_1_4 _ (List.mem_of_getElem? (i := 233) rfl), rfl⟩
set_option maxRecDepth 20000 in
theorem kw_178 : Cond.selects "KettleChoir$Planner" ⟨"KettleChoir$Planner", "search", "(LKettleChoir$Kitchen;[II)V"⟩ ⟨"KettleChoir$Planner", "search", "(LKettleChoir$Kitchen;[II)V"⟩ ∈ kt_T := List.mem_filter.mpr ⟨kc_lw_privs_3 (⟨"KettleChoir$Planner", "search", "(LKettleChoir$Kitchen;[II)V"⟩, 5) (List.mem_of_getElem? (i := 10) rfl), rfl⟩
set_option maxRecDepth 20000 in
theorem kw_179 : Cond.code ⟨"KettleChoir$Planner", "plan", "(LKettleChoir$Kitchen;[II)V"⟩ prog_7_method_2_code 4 none ∈ kt_T := List.mem_filter.mpr ⟨kc_tables_1_4 _ (List.mem_of_getElem? (i := 229) rfl), rfl⟩
set_option maxRecDepth 20000 in
theorem kw_180 : Cond.fieldLink "KettleChoir$Planner" 38 "KettleChoir$Kitchen" "kettles" "I" ∈ kt_T := List.mem_filter.mpr ⟨kc_tables_1_1 _ (List.mem_of_getElem? (i := 94) rfl), rfl⟩
set_option maxRecDepth 20000 in
theorem kw_181 : Cond.fieldLink "KettleChoir$Planner" 43 "KettleChoir$Kitchen" "stoves" "I" ∈ kt_T := List.mem_filter.mpr ⟨kc_tables_1_1 _ (List.mem_of_getElem? (i := 100) rfl), rfl⟩
set_option maxRecDepth 20000 in
theorem kw_182 : Cond.methodLink "KettleChoir$Planner" 46 ⟨"KettleChoir$Planner", "choose", "(III)Z"⟩ ∈ kt_T := List.mem_filter.mpr ⟨kc_tables_1_4 _ (List.mem_of_getElem? (i := 235) rfl), rfl⟩
set_option maxRecDepth 20000 in
theorem kw_183 : Cond.instanceMethod ⟨"KettleChoir$Planner", "choose", "(III)Z"⟩ ∈ kt_T := List.mem_filter.mpr ⟨kc_tables_1_4 _ (List.mem_of_getElem? (i := 237) rfl), rfl⟩
set_option maxRecDepth 20000 in
theorem kw_184 : Cond.selects "KettleChoir$Planner" ⟨"KettleChoir$Planner", "choose", "(III)Z"⟩ ⟨"KettleChoir$Planner", "choose", "(III)Z"⟩ ∈ kt_T := List.mem_filter.mpr ⟨kc_lw_privs_3 (⟨"KettleChoir$Planner", "choose", "(III)Z"⟩, 5) (List.mem_of_getElem? (i := 11) rfl), rfl⟩
set_option maxRecDepth 20000 in
theorem kw_185 : Cond.methodLink "KettleChoir$Planner" 50 ⟨"KettleChoir$Planner", "setOut", "(LKettleChoir$Kitchen;[I)V"⟩ ∈ kt_T := List.mem_filter.mpr ⟨kc_tables_1_4 _ (List.mem_of_getElem? (i := 239) rfl), rfl⟩
set_option maxRecDepth 20000 in
theorem kw_186 : Cond.instanceMethod ⟨"KettleChoir$Planner", "setOut", "(LKettleChoir$Kitchen;[I)V"⟩ ∈ kt_T := List.mem_filter.mpr ⟨kc_tables_1_5 _ (List.mem_of_getElem? (i := 1) rfl), rfl⟩
set_option maxRecDepth 20000 in
theorem kw_187 : Cond.selects "KettleChoir$Planner" ⟨"KettleChoir$Planner", "setOut", "(LKettleChoir$Kitchen;[I)V"⟩ ⟨"KettleChoir$Planner", "setOut", "(LKettleChoir$Kitchen;[I)V"⟩ ∈ kt_T := List.mem_filter.mpr ⟨kc_lw_privs_3 (⟨"KettleChoir$Planner", "setOut", "(LKettleChoir$Kitchen;[I)V"⟩, 5) (List.mem_of_getElem? (i := 12) rfl), rfl⟩
set_option maxRecDepth 20000 in
theorem kw_188 : Cond.methodLink "KettleChoir$Planner" 54 ⟨"KettleChoir$Planner", "readyMinute", "(LKettleChoir$Kitchen;II)I"⟩ ∈ kt_T := List.mem_filter.mpr ⟨kc_tables_1_5 _ (List.mem_of_getElem? (i := 4) rfl), rfl⟩
set_option maxRecDepth 20000 in
theorem kw_189 : Cond.instanceMethod ⟨"KettleChoir$Planner", "readyMinute", "(LKettleChoir$Kitchen;II)I"⟩ ∈ kt_T := List.mem_filter.mpr ⟨kc_tables_1_5 _ (List.mem_of_getElem? (i := 6) rfl), rfl⟩
set_option maxRecDepth 20000 in
theorem kw_190 : Cond.selects "KettleChoir$Planner" ⟨"KettleChoir$Planner", "readyMinute", "(LKettleChoir$Kitchen;II)I"⟩ ⟨"KettleChoir$Planner", "readyMinute", "(LKettleChoir$Kitchen;II)I"⟩ ∈ kt_T := List.mem_filter.mpr ⟨kc_lw_privs_3 (⟨"KettleChoir$Planner", "readyMinute", "(LKettleChoir$Kitchen;II)I"⟩, 5) (List.mem_of_getElem? (i := 13) rfl), rfl⟩
set_option maxRecDepth 20000 in
theorem kw_191 : Cond.methodLink "KettleChoir$Planner" 58 ⟨"java/lang/System", "arraycopy", "(Ljava/lang/Object;ILjava/lang/Object;II)V"⟩ ∈ kt_T := List.mem_filter.mpr ⟨kc_tables_1_5 _ (List.mem_of_getElem? (i := 3) rfl), rfl⟩
set_option maxRecDepth 20000 in
theorem kw_192 : Cond.code ⟨"KettleChoir$Planner", "search", "(LKettleChoir$Kitchen;[II)V"⟩ prog_7_method_3_code 9 none ∈ kt_T := List.mem_filter.mpr ⟨kc_tables_1_4 _ (List.mem_of_getElem? (i := 234) rfl), rfl⟩
set_option maxRecDepth 20000 in
theorem kw_193 : Cond.code ⟨"KettleChoir$Planner", "choose", "(III)Z"⟩ prog_7_method_4_code 8 (some .boolean) ∈ kt_T := List.mem_filter.mpr ⟨kc_tables_1_4 _ (List.mem_of_getElem? (i := 238) rfl), rfl⟩
set_option maxRecDepth 20000 in
theorem kw_194 : Cond.code ⟨"KettleChoir$Planner", "setOut", "(LKettleChoir$Kitchen;[I)V"⟩ prog_7_method_5_code 4 none ∈ kt_T := List.mem_filter.mpr ⟨kc_tables_1_5 _ (List.mem_of_getElem? (i := 2) rfl), rfl⟩
set_option maxRecDepth 20000 in
theorem kw_195 : Cond.methodLink "KettleChoir$Planner" 64 ⟨"KettleChoir$Kitchen", "couldSing", "([II)Z"⟩ ∈ kt_T := List.mem_filter.mpr ⟨kc_tables_1_5 _ (List.mem_of_getElem? (i := 12) rfl), rfl⟩
set_option maxRecDepth 20000 in
theorem kw_196 : Cond.fieldLink "KettleChoir$Planner" 68 "KettleChoir$Kitchen" "steps" "[I" ∈ kt_T := List.mem_filter.mpr ⟨kc_tables_1_1 _ (List.mem_of_getElem? (i := 83) rfl), rfl⟩
set_option maxRecDepth 20000 in
theorem kw_197 : Cond.code ⟨"KettleChoir$Planner", "enoughVoices", "(LKettleChoir$Kitchen;I)Z"⟩ prog_7_method_6_code 6 (some .boolean) ∈ kt_T := List.mem_filter.mpr ⟨kc_tables_1_5 _ (List.mem_of_getElem? (i := 11) rfl), rfl⟩
set_option maxRecDepth 20000 in
theorem kw_198 : Cond.methodLink "KettleChoir$Planner" 71 ⟨"KettleChoir$Planner", "enoughVoices", "(LKettleChoir$Kitchen;I)Z"⟩ ∈ kt_T := List.mem_filter.mpr ⟨kc_tables_1_5 _ (List.mem_of_getElem? (i := 8) rfl), rfl⟩
set_option maxRecDepth 20000 in
theorem kw_199 : Cond.instanceMethod ⟨"KettleChoir$Planner", "enoughVoices", "(LKettleChoir$Kitchen;I)Z"⟩ ∈ kt_T := List.mem_filter.mpr ⟨kc_tables_1_5 _ (List.mem_of_getElem? (i := 10) rfl), rfl⟩
set_option maxRecDepth 20000 in
theorem kw_200 : Cond.selects "KettleChoir$Planner" ⟨"KettleChoir$Planner", "enoughVoices", "(LKettleChoir$Kitchen;I)Z"⟩ ⟨"KettleChoir$Planner", "enoughVoices", "(LKettleChoir$Kitchen;I)Z"⟩ ∈ kt_T := List.mem_filter.mpr ⟨kc_lw_privs_3 (⟨"KettleChoir$Planner", "enoughVoices", "(LKettleChoir$Kitchen;I)Z"⟩, 5) (List.mem_of_getElem? (i := 14) rfl), rfl⟩
set_option maxRecDepth 20000 in
theorem kw_201 : Cond.methodLink "KettleChoir$Planner" 75 ⟨"KettleChoir$Kitchen", "pass", "([I)V"⟩ ∈ kt_T := List.mem_filter.mpr ⟨kc_tables_1_5 _ (List.mem_of_getElem? (i := 13) rfl), rfl⟩
set_option maxRecDepth 20000 in
theorem kw_202 : Cond.code ⟨"KettleChoir$Planner", "readyMinute", "(LKettleChoir$Kitchen;II)I"⟩ prog_7_method_7_code 5 (some .int) ∈ kt_T := List.mem_filter.mpr ⟨kc_tables_1_5 _ (List.mem_of_getElem? (i := 7) rfl), rfl⟩
set_option maxRecDepth 20000 in
theorem kw_203 : Cond.methodLink "KettleChoir$Reader" 3 ⟨"java/lang/Object", "<init>", "()V"⟩ ∈ kt_T := List.mem_filter.mpr ⟨kc_tables_1_1 _ (List.mem_of_getElem? (i := 38) rfl), rfl⟩
set_option maxRecDepth 20000 in
theorem kw_204 : Cond.arrayClass Jvm.ClassFile.FieldType.byte ∈ kt_T := List.mem_filter.mpr ⟨kc_tables_1_1 _ (List.mem_of_getElem? (i := 62) rfl), rfl⟩
set_option maxRecDepth 20000 in
theorem kw_205 : Cond.fieldLink "KettleChoir$Reader" 9 "KettleChoir$Reader" "tape" "[B" ∈ kt_T := List.mem_filter.mpr ⟨kc_tables_1_1 _ (List.mem_of_getElem? (i := 141) rfl), rfl⟩
set_option maxRecDepth 20000 in
theorem kw_206 : Cond.classLink "KettleChoir$Reader" 15 "KettleChoir$Kitchen" ∈ kt_T := List.mem_filter.mpr ⟨kc_tables_1_1 _ (List.mem_of_getElem? (i := 39) rfl), rfl⟩
set_option maxRecDepth 20000 in
theorem kw_207 : Cond.instanceMethod ⟨"KettleChoir$Kitchen", "<init>", "()V"⟩ ∈ kt_T := List.mem_filter.mpr ⟨kc_tables_1_1 _ (List.mem_of_getElem? (i := 42) rfl), rfl⟩
set_option maxRecDepth 20000 in
theorem kw_208 : Cond.fieldLink "KettleChoir$Reader" 18 "KettleChoir$Reader" "draft" "LKettleChoir$Kitchen;" ∈ kt_T := List.mem_filter.mpr ⟨kc_tables_1_1 _ (List.mem_of_getElem? (i := 142) rfl), rfl⟩
set_option maxRecDepth 20000 in
theorem kw_209 : Cond.fieldLink "KettleChoir$Reader" 22 "KettleChoir$Reader" "faultPlace" "I" ∈ kt_T := List.mem_filter.mpr ⟨kc_tables_1_1 _ (List.mem_of_getElem? (i := 146) rfl), rfl⟩
set_option maxRecDepth 20000 in
theorem kw_210 : Cond.initialized "KettleChoir$Reader" ∈ kt_T := List.mem_filter.mpr ⟨kc_tables_1_1 _ (List.mem_of_getElem? (i := 2) rfl), rfl⟩
set_option maxRecDepth 20000 in
theorem kw_211 : Cond.code ⟨"KettleChoir$Reader", "<init>", "()V"⟩ prog_8_method_1_code 1 none ∈ kt_T := List.mem_filter.mpr ⟨kc_tables_1_1 _ (List.mem_of_getElem? (i := 37) rfl), rfl⟩
set_option maxRecDepth 20000 in
theorem kw_212 : Cond.fieldLink "KettleChoir$Reader" 26 "KettleChoir$Reader" "taped" "I" ∈ kt_T := List.mem_filter.mpr ⟨kc_tables_1_1 _ (List.mem_of_getElem? (i := 145) rfl), rfl⟩
set_option maxRecDepth 20000 in
theorem kw_213 : Cond.code ⟨"KettleChoir$Reader", "append", "(I)V"⟩ prog_8_method_2_code 3 none ∈ kt_T := List.mem_filter.mpr ⟨kc_tables_1_2 _ (List.mem_of_getElem? (i := 102) rfl), rfl⟩
set_option maxRecDepth 20000 in
theorem kw_214 : Cond.methodLink "KettleChoir$Reader" 29 ⟨"java/lang/Math", "min", "(II)I"⟩ ∈ kt_T := List.mem_filter.mpr ⟨kc_tables_1_3 _ (List.mem_of_getElem? (i := 109) rfl), rfl⟩
set_option maxRecDepth 20000 in
theorem kw_215 : Cond.fieldLink "KettleChoir$Reader" 35 "KettleChoir$Reader" "end" "I" ∈ kt_T := List.mem_filter.mpr ⟨kc_tables_1_1 _ (List.mem_of_getElem? (i := 148) rfl), rfl⟩
set_option maxRecDepth 20000 in
theorem kw_216 : Cond.fieldLink "KettleChoir$Reader" 38 "KettleChoir$Reader" "at" "I" ∈ kt_T := List.mem_filter.mpr ⟨kc_tables_1_1 _ (List.mem_of_getElem? (i := 149) rfl), rfl⟩
set_option maxRecDepth 20000 in
theorem kw_217 : Cond.fieldLink "KettleChoir$Reader" 41 "KettleChoir$Reader" "fault" "I" ∈ kt_T := List.mem_filter.mpr ⟨kc_tables_1_1 _ (List.mem_of_getElem? (i := 154) rfl), rfl⟩
set_option maxRecDepth 20000 in
theorem kw_218 : Cond.fieldLink "KettleChoir$Reader" 44 "KettleChoir$Reader" "hasRule" "Z" ∈ kt_T := List.mem_filter.mpr ⟨kc_tables_1_1 _ (List.mem_of_getElem? (i := 153) rfl), rfl⟩
set_option maxRecDepth 20000 in
theorem kw_219 : Cond.methodLink "KettleChoir$Reader" 48 ⟨"KettleChoir$Kitchen", "clear", "()V"⟩ ∈ kt_T := List.mem_filter.mpr ⟨kc_tables_1_3 _ (List.mem_of_getElem? (i := 110) rfl), rfl⟩
set_option maxRecDepth 20000 in
theorem kw_220 : Cond.instanceMethod ⟨"KettleChoir$Kitchen", "clear", "()V"⟩ ∈ kt_T := List.mem_filter.mpr ⟨kc_tables_1_3 _ (List.mem_of_getElem? (i := 111) rfl), rfl⟩
set_option maxRecDepth 20000 in
theorem kw_221 : Cond.selects "KettleChoir$Kitchen" ⟨"KettleChoir$Kitchen", "clear", "()V"⟩ ⟨"KettleChoir$Kitchen", "clear", "()V"⟩ ∈ kt_T := List.mem_filter.mpr ⟨kc_tables_1_3 _ (List.mem_of_getElem? (i := 112) rfl), rfl⟩
set_option maxRecDepth 20000 in
theorem kw_222 : Cond.methodLink "KettleChoir$Reader" 51 ⟨"KettleChoir$Reader", "advance", "()V"⟩ ∈ kt_T := List.mem_filter.mpr ⟨kc_tables_1_3 _ (List.mem_of_getElem? (i := 114) rfl), rfl⟩
set_option maxRecDepth 20000 in
theorem kw_223 : Cond.instanceMethod ⟨"KettleChoir$Reader", "advance", "()V"⟩ ∈ kt_T := List.mem_filter.mpr ⟨kc_tables_1_3 _ (List.mem_of_getElem? (i := 116) rfl), rfl⟩
set_option maxRecDepth 20000 in
theorem kw_224 : Cond.selects "KettleChoir$Reader" ⟨"KettleChoir$Reader", "advance", "()V"⟩ ⟨"KettleChoir$Reader", "advance", "()V"⟩ ∈ kt_T := List.mem_filter.mpr ⟨kc_lw_privs_1 (⟨"KettleChoir$Reader", "advance", "()V"⟩, 11) (List.mem_of_getElem? (i := 11) rfl), rfl⟩
set_option maxRecDepth 20000 in
theorem kw_225 : Cond.fieldLink "KettleChoir$Reader" 54 "KettleChoir$Reader" "token" "I" ∈ kt_T := List.mem_filter.mpr ⟨kc_tables_1_1 _ (List.mem_of_getElem? (i := 150) rfl), rfl⟩
set_option maxRecDepth 20000 in
theorem kw_226 : Cond.methodLink "KettleChoir$Reader" 57 ⟨"KettleChoir$Reader", "line", "()V"⟩ ∈ kt_T := List.mem_filter.mpr ⟨kc_tables_1_3 _ (List.mem_of_getElem? (i := 122) rfl), rfl⟩
set_option maxRecDepth 20000 in
theorem kw_227 : Cond.instanceMethod ⟨"KettleChoir$Reader", "line", "()V"⟩ ∈ kt_T := List.mem_filter.mpr ⟨kc_tables_1_3 _ (List.mem_of_getElem? (i := 124) rfl), rfl⟩
set_option maxRecDepth 20000 in
theorem kw_228 : Cond.selects "KettleChoir$Reader" ⟨"KettleChoir$Reader", "line", "()V"⟩ ⟨"KettleChoir$Reader", "line", "()V"⟩ ∈ kt_T := List.mem_filter.mpr ⟨kc_lw_privs_1 (⟨"KettleChoir$Reader", "line", "()V"⟩, 11) (List.mem_of_getElem? (i := 13) rfl), rfl⟩
set_option maxRecDepth 20000 in
theorem kw_229 : Cond.methodLink "KettleChoir$Reader" 60 ⟨"KettleChoir$Reader", "expect", "(C)V"⟩ ∈ kt_T := List.mem_filter.mpr ⟨kc_tables_1_4 _ (List.mem_of_getElem? (i := 29) rfl), rfl⟩
set_option maxRecDepth 20000 in
theorem kw_230 : Cond.instanceMethod ⟨"KettleChoir$Reader", "expect", "(C)V"⟩ ∈ kt_T := List.mem_filter.mpr ⟨kc_tables_1_4 _ (List.mem_of_getElem? (i := 31) rfl), rfl⟩
set_option maxRecDepth 20000 in
theorem kw_231 : Cond.selects "KettleChoir$Reader" ⟨"KettleChoir$Reader", "expect", "(C)V"⟩ ⟨"KettleChoir$Reader", "expect", "(C)V"⟩ ∈ kt_T := List.mem_filter.mpr ⟨kc_lw_privs_3 (⟨"KettleChoir$Reader", "expect", "(C)V"⟩, 11) (List.mem_of_getElem? (i := 1) rfl), rfl⟩
set_option maxRecDepth 20000 in
theorem kw_232 : Cond.code ⟨"KettleChoir$Reader", "read", "(I)I"⟩ prog_8_method_3_code 3 (some .int) ∈ kt_T := List.mem_filter.mpr ⟨kc_tables_1_3 _ (List.mem_of_getElem? (i := 108) rfl), rfl⟩
set_option maxRecDepth 20000 in
theorem kw_233 : Cond.methodLink "KettleChoir$Reader" 64 ⟨"KettleChoir$Reader", "kettleWord", "()I"⟩ ∈ kt_T := List.mem_filter.mpr ⟨kc_tables_1_3 _ (List.mem_of_getElem? (i := 126) rfl), rfl⟩
set_option maxRecDepth 20000 in
theorem kw_234 : Cond.instanceMethod ⟨"KettleChoir$Reader", "kettleWord", "()I"⟩ ∈ kt_T := List.mem_filter.mpr ⟨kc_tables_1_3 _ (List.mem_of_getElem? (i := 128) rfl), rfl⟩
set_option maxRecDepth 20000 in
theorem kw_235 : Cond.selects "KettleChoir$Reader" ⟨"KettleChoir$Reader", "kettleWord", "()I"⟩ ⟨"KettleChoir$Reader", "kettleWord", "()I"⟩ ∈ kt_T := List.mem_filter.mpr ⟨kc_lw_privs_1 (⟨"KettleChoir$Reader", "kettleWord", "()I"⟩, 11) (List.mem_of_getElem? (i := 14) rfl), rfl⟩
set_option maxRecDepth 20000 in
theorem kw_236 : Cond.methodLink "KettleChoir$Reader" 68 ⟨"KettleChoir$Reader", "kettleLine", "(I)V"⟩ ∈ kt_T := List.mem_filter.mpr ⟨kc_tables_1_3 _ (List.mem_of_getElem? (i := 186) rfl), rfl⟩
set_option maxRecDepth 20000 in
theorem kw_237 : Cond.instanceMethod ⟨"KettleChoir$Reader", "kettleLine", "(I)V"⟩ ∈ kt_T := List.mem_filter.mpr ⟨kc_tables_1_3 _ (List.mem_of_getElem? (i := 188) rfl), rfl⟩
set_option maxRecDepth 20000 in
theorem kw_238 : Cond.selects "KettleChoir$Reader" ⟨"KettleChoir$Reader", "kettleLine", "(I)V"⟩ ⟨"KettleChoir$Reader", "kettleLine", "(I)V"⟩ ∈ kt_T := List.mem_filter.mpr ⟨kc_lw_privs_2 (⟨"KettleChoir$Reader", "kettleLine", "(I)V"⟩, 11) (List.mem_of_getElem? (i := 0) rfl), rfl⟩
set_option maxRecDepth 20000 in
theorem kw_239 : Cond.methodLink "KettleChoir$Reader" 74 ⟨"KettleChoir$Reader", "isWord", "(Ljava/lang/String;)Z"⟩ ∈ kt_T := List.mem_filter.mpr ⟨kc_tables_1_3 _ (List.mem_of_getElem? (i := 131) rfl), rfl⟩
set_option maxRecDepth 20000 in
theorem kw_240 : Cond.instanceMethod ⟨"KettleChoir$Reader", "isWord", "(Ljava/lang/String;)Z"⟩ ∈ kt_T := List.mem_filter.mpr ⟨kc_tables_1_3 _ (List.mem_of_getElem? (i := 133) rfl), rfl⟩
set_option maxRecDepth 20000 in
theorem kw_241 : Cond.selects "KettleChoir$Reader" ⟨"KettleChoir$Reader", "isWord", "(Ljava/lang/String;)Z"⟩ ⟨"KettleChoir$Reader", "isWord", "(Ljava/lang/String;)Z"⟩ ∈ kt_T := List.mem_filter.mpr ⟨kc_lw_privs_1 (⟨"KettleChoir$Reader", "isWord", "(Ljava/lang/String;)Z"⟩, 11) (List.mem_of_getElem? (i := 15) rfl), rfl⟩
set_option maxRecDepth 20000 in
theorem kw_242 : Cond.methodLink "KettleChoir$Reader" 78 ⟨"KettleChoir$Reader", "stoveLine", "()V"⟩ ∈ kt_T := List.mem_filter.mpr ⟨kc_tables_1_3 _ (List.mem_of_getElem? (i := 203) rfl), rfl⟩
set_option maxRecDepth 20000 in
theorem kw_243 : Cond.instanceMethod ⟨"KettleChoir$Reader", "stoveLine", "()V"⟩ ∈ kt_T := List.mem_filter.mpr ⟨kc_tables_1_3 _ (List.mem_of_getElem? (i := 205) rfl), rfl⟩
set_option maxRecDepth 20000 in
theorem kw_244 : Cond.selects "KettleChoir$Reader" ⟨"KettleChoir$Reader", "stoveLine", "()V"⟩ ⟨"KettleChoir$Reader", "stoveLine", "()V"⟩ ∈ kt_T := List.mem_filter.mpr ⟨kc_lw_privs_2 (⟨"KettleChoir$Reader", "stoveLine", "()V"⟩, 11) (List.mem_of_getElem? (i := 4) rfl), rfl⟩
set_option maxRecDepth 20000 in
theorem kw_245 : Cond.methodLink "KettleChoir$Reader" 83 ⟨"KettleChoir$Reader", "dishLine", "()V"⟩ ∈ kt_T := List.mem_filter.mpr ⟨kc_tables_1_3 _ (List.mem_of_getElem? (i := 208) rfl), rfl⟩
set_option maxRecDepth 20000 in
theorem kw_246 : Cond.instanceMethod ⟨"KettleChoir$Reader", "dishLine", "()V"⟩ ∈ kt_T := List.mem_filter.mpr ⟨kc_tables_1_3 _ (List.mem_of_getElem? (i := 210) rfl), rfl⟩
set_option maxRecDepth 20000 in
theorem kw_247 : Cond.selects "KettleChoir$Reader" ⟨"KettleChoir$Reader", "dishLine", "()V"⟩ ⟨"KettleChoir$Reader", "dishLine", "()V"⟩ ∈ kt_T := List.mem_filter.mpr ⟨kc_lw_privs_2 (⟨"KettleChoir$Reader", "dishLine", "()V"⟩, 11) (List.mem_of_getElem? (i := 5) rfl), rfl⟩
set_option maxRecDepth 20000 in
theorem kw_248 : Cond.methodLink "KettleChoir$Reader" 88 ⟨"KettleChoir$Reader", "liftsLine", "()V"⟩ ∈ kt_T := List.mem_filter.mpr ⟨kc_tables_1_3 _ (List.mem_of_getElem? (i := 221) rfl), rfl⟩
set_option maxRecDepth 20000 in
theorem kw_249 : Cond.instanceMethod ⟨"KettleChoir$Reader", "liftsLine", "()V"⟩ ∈ kt_T := List.mem_filter.mpr ⟨kc_tables_1_3 _ (List.mem_of_getElem? (i := 223) rfl), rfl⟩
set_option maxRecDepth 20000 in
theorem kw_250 : Cond.selects "KettleChoir$Reader" ⟨"KettleChoir$Reader", "liftsLine", "()V"⟩ ⟨"KettleChoir$Reader", "liftsLine", "()V"⟩ ∈ kt_T := List.mem_filter.mpr ⟨kc_lw_privs_2 (⟨"KettleChoir$Reader", "liftsLine", "()V"⟩, 11) (List.mem_of_getElem? (i := 8) rfl), rfl⟩
set_option maxRecDepth 20000 in
theorem kw_251 : Cond.methodLink "KettleChoir$Reader" 91 ⟨"KettleChoir$Reader", "fail", "(I)V"⟩ ∈ kt_T := List.mem_filter.mpr ⟨kc_tables_1_3 _ (List.mem_of_getElem? (i := 190) rfl), rfl⟩
set_option maxRecDepth 20000 in
theorem kw_252 : Cond.instanceMethod ⟨"KettleChoir$Reader", "fail", "(I)V"⟩ ∈ kt_T := List.mem_filter.mpr ⟨kc_tables_1_3 _ (List.mem_of_getElem? (i := 192) rfl), rfl⟩
set_option maxRecDepth 20000 in
theorem kw_253 : Cond.selects "KettleChoir$Reader" ⟨"KettleChoir$Reader", "fail", "(I)V"⟩ ⟨"KettleChoir$Reader", "fail", "(I)V"⟩ ∈ kt_T := List.mem_filter.mpr ⟨kc_lw_privs_2 (⟨"KettleChoir$Reader", "fail", "(I)V"⟩, 11) (List.mem_of_getElem? (i := 1) rfl), rfl⟩
set_option maxRecDepth 20000 in
theorem kw_254 : Cond.code ⟨"KettleChoir$Reader", "line", "()V"⟩ prog_8_method_4_code 2 none ∈ kt_T := List.mem_filter.mpr ⟨kc_tables_1_3 _ (List.mem_of_getElem? (i := 125) rfl), rfl⟩
set_option maxRecDepth 20000 in
theorem kw_255 : Cond.fieldLink "KettleChoir$Reader" 94 "KettleChoir$Kitchen" "kettles" "I" ∈ kt_T := List.mem_filter.mpr ⟨kc_tables_1_1 _ (List.mem_of_getElem? (i := 97) rfl), rfl⟩
set_option maxRecDepth 20000 in
theorem kw_256 : Cond.fieldLink "KettleChoir$Reader" 97 "KettleChoir$Kitchen" "kind" "[I" ∈ kt_T := List.mem_filter.mpr ⟨kc_tables_1_1 _ (List.mem_of_getElem? (i := 65) rfl), rfl⟩
set_option maxRecDepth 20000 in
theorem kw_257 : Cond.fieldLink "KettleChoir$Reader" 101 "KettleChoir$Kitchen" "spout" "[I" ∈ kt_T := List.mem_filter.mpr ⟨kc_tables_1_1 _ (List.mem_of_getElem? (i := 68) rfl), rfl⟩
set_option maxRecDepth 20000 in
theorem kw_258 : Cond.methodLink "KettleChoir$Reader" 104 ⟨"KettleChoir$Reader", "numberOf", "(II)I"⟩ ∈ kt_T := List.mem_filter.mpr ⟨kc_tables_1_3 _ (List.mem_of_getElem? (i := 194) rfl), rfl⟩
set_option maxRecDepth 20000 in
theorem kw_259 : Cond.instanceMethod ⟨"KettleChoir$Reader", "numberOf", "(II)I"⟩ ∈ kt_T := List.mem_filter.mpr ⟨kc_tables_1_3 _ (List.mem_of_getElem? (i := 196) rfl), rfl⟩
set_option maxRecDepth 20000 in
theorem kw_260 : Cond.selects "KettleChoir$Reader" ⟨"KettleChoir$Reader", "numberOf", "(II)I"⟩ ⟨"KettleChoir$Reader", "numberOf", "(II)I"⟩ ∈ kt_T := List.mem_filter.mpr ⟨kc_lw_privs_2 (⟨"KettleChoir$Reader", "numberOf", "(II)I"⟩, 11) (List.mem_of_getElem? (i := 2) rfl), rfl⟩
set_option maxRecDepth 20000 in
theorem kw_261 : Cond.fieldLink "KettleChoir$Reader" 107 "KettleChoir$Kitchen" "size" "[I" ∈ kt_T := List.mem_filter.mpr ⟨kc_tables_1_1 _ (List.mem_of_getElem? (i := 72) rfl), rfl⟩
set_option maxRecDepth 20000 in
theorem kw_262 : Cond.fieldLink "KettleChoir$Reader" 110 "KettleChoir$Kitchen" "firstFill" "[I" ∈ kt_T := List.mem_filter.mpr ⟨kc_tables_1_1 _ (List.mem_of_getElem? (i := 75) rfl), rfl⟩
set_option maxRecDepth 20000 in
theorem kw_263 : Cond.fieldLink "KettleChoir$Reader" 113 "KettleChoir$Kitchen" "firstChalk" "[I" ∈ kt_T := List.mem_filter.mpr ⟨kc_tables_1_1 _ (List.mem_of_getElem? (i := 77) rfl), rfl⟩
set_option maxRecDepth 20000 in
theorem kw_264 : Cond.code ⟨"KettleChoir$Reader", "kettleLine", "(I)V"⟩ prog_8_method_5_code 3 none ∈ kt_T := List.mem_filter.mpr ⟨kc_tables_1_3 _ (List.mem_of_getElem? (i := 189) rfl), rfl⟩
set_option maxRecDepth 20000 in
theorem kw_265 : Cond.fieldLink "KettleChoir$Reader" 116 "KettleChoir$Kitchen" "stoves" "I" ∈ kt_T := List.mem_filter.mpr ⟨kc_tables_1_1 _ (List.mem_of_getElem? (i := 102) rfl), rfl⟩
set_option maxRecDepth 20000 in
theorem kw_266 : Cond.fieldLink "KettleChoir$Reader" 119 "KettleChoir$Kitchen" "power" "[I" ∈ kt_T := List.mem_filter.mpr ⟨kc_tables_1_1 _ (List.mem_of_getElem? (i := 79) rfl), rfl⟩
set_option maxRecDepth 20000 in
theorem kw_267 : Cond.code ⟨"KettleChoir$Reader", "stoveLine", "()V"⟩ prog_8_method_6_code 2 none ∈ kt_T := List.mem_filter.mpr ⟨kc_tables_1_3 _ (List.mem_of_getElem? (i := 206) rfl), rfl⟩
set_option maxRecDepth 20000 in
theorem kw_268 : Cond.fieldLink "KettleChoir$Reader" 122 "KettleChoir$Kitchen" "dishes" "I" ∈ kt_T := List.mem_filter.mpr ⟨kc_tables_1_1 _ (List.mem_of_getElem? (i := 105) rfl), rfl⟩
set_option maxRecDepth 20000 in
theorem kw_269 : Cond.fieldLink "KettleChoir$Reader" 125 "KettleChoir$Kitchen" "steps" "[I" ∈ kt_T := List.mem_filter.mpr ⟨kc_tables_1_1 _ (List.mem_of_getElem? (i := 84) rfl), rfl⟩
set_option maxRecDepth 20000 in
theorem kw_270 : Cond.methodLink "KettleChoir$Reader" 128 ⟨"KettleChoir$Reader", "step", "(I)V"⟩ ∈ kt_T := List.mem_filter.mpr ⟨kc_tables_1_3 _ (List.mem_of_getElem? (i := 212) rfl), rfl⟩
set_option maxRecDepth 20000 in
theorem kw_271 : Cond.instanceMethod ⟨"KettleChoir$Reader", "step", "(I)V"⟩ ∈ kt_T := List.mem_filter.mpr ⟨kc_tables_1_3 _ (List.mem_of_getElem? (i := 214) rfl), rfl⟩
set_option maxRecDepth 20000 in
theorem kw_272 : Cond.selects "KettleChoir$Reader" ⟨"KettleChoir$Reader", "step", "(I)V"⟩ ⟨"KettleChoir$Reader", "step", "(I)V"⟩ ∈ kt_T := List.mem_filter.mpr ⟨kc_lw_privs_2 (⟨"KettleChoir$Reader", "step", "(I)V"⟩, 11) (List.mem_of_getElem? (i := 6) rfl), rfl⟩
set_option maxRecDepth 20000 in
theorem kw_273 : Cond.code ⟨"KettleChoir$Reader", "dishLine", "()V"⟩ prog_8_method_7_code 3 none ∈ kt_T := List.mem_filter.mpr ⟨kc_tables_1_3 _ (List.mem_of_getElem? (i := 211) rfl), rfl⟩
set_option maxRecDepth 20000 in
theorem kw_274 : Cond.methodLink "KettleChoir$Reader" 131 ⟨"KettleChoir$Reader", "needNumber", "(II)Z"⟩ ∈ kt_T := List.mem_filter.mpr ⟨kc_tables_1_3 _ (List.mem_of_getElem? (i := 198) rfl), rfl⟩
set_option maxRecDepth 20000 in
theorem kw_275 : Cond.instanceMethod ⟨"KettleChoir$Reader", "needNumber", "(II)Z"⟩ ∈ kt_T := List.mem_filter.mpr ⟨kc_tables_1_3 _ (List.mem_of_getElem? (i := 200) rfl), rfl⟩
set_option maxRecDepth 20000 in
theorem kw_276 : Cond.selects "KettleChoir$Reader" ⟨"KettleChoir$Reader", "needNumber", "(II)Z"⟩ ⟨"KettleChoir$Reader", "needNumber", "(II)Z"⟩ ∈ kt_T := List.mem_filter.mpr ⟨kc_lw_privs_2 (⟨"KettleChoir$Reader", "needNumber", "(II)Z"⟩, 11) (List.mem_of_getElem? (i := 3) rfl), rfl⟩
set_option maxRecDepth 20000 in
theorem kw_277 : Cond.methodLink "KettleChoir$Reader" 135 ⟨"KettleChoir$Reader", "hasStep", "(I)Z"⟩ ∈ kt_T := List.mem_filter.mpr ⟨kc_tables_1_3 _ (List.mem_of_getElem? (i := 216) rfl), rfl⟩
set_option maxRecDepth 20000 in
theorem kw_278 : Cond.instanceMethod ⟨"KettleChoir$Reader", "hasStep", "(I)Z"⟩ ∈ kt_T := List.mem_filter.mpr ⟨kc_tables_1_3 _ (List.mem_of_getElem? (i := 218) rfl), rfl⟩
set_option maxRecDepth 20000 in
theorem kw_279 : Cond.selects "KettleChoir$Reader" ⟨"KettleChoir$Reader", "hasStep", "(I)Z"⟩ ⟨"KettleChoir$Reader", "hasStep", "(I)Z"⟩ ∈ kt_T := List.mem_filter.mpr ⟨kc_lw_privs_2 (⟨"KettleChoir$Reader", "hasStep", "(I)Z"⟩, 11) (List.mem_of_getElem? (i := 7) rfl), rfl⟩
set_option maxRecDepth 20000 in
theorem kw_280 : Cond.fieldLink "KettleChoir$Reader" 139 "KettleChoir$Kitchen" "step" "[I" ∈ kt_T := List.mem_filter.mpr ⟨kc_tables_1_1 _ (List.mem_of_getElem? (i := 89) rfl), rfl⟩
set_option maxRecDepth 20000 in
theorem kw_281 : Cond.fieldLink "KettleChoir$Reader" 141 "KettleChoir$Reader" "number" "I" ∈ kt_T := List.mem_filter.mpr ⟨kc_tables_1_1 _ (List.mem_of_getElem? (i := 152) rfl), rfl⟩
set_option maxRecDepth 20000 in
theorem kw_282 : Cond.code ⟨"KettleChoir$Reader", "step", "(I)V"⟩ prog_8_method_8_code 3 none ∈ kt_T := List.mem_filter.mpr ⟨kc_tables_1_3 _ (List.mem_of_getElem? (i := 215) rfl), rfl⟩
set_option maxRecDepth 20000 in
theorem kw_283 : Cond.code ⟨"KettleChoir$Reader", "hasStep", "(I)Z"⟩ prog_8_method_9_code 3 (some .boolean) ∈ kt_T := List.mem_filter.mpr ⟨kc_tables_1_3 _ (List.mem_of_getElem? (i := 219) rfl), rfl⟩
set_option maxRecDepth 20000 in
theorem kw_284 : Cond.methodLink "KettleChoir$Reader" 144 ⟨"KettleChoir$Reader", "expr", "(I)V"⟩ ∈ kt_T := List.mem_filter.mpr ⟨kc_tables_1_3 _ (List.mem_of_getElem? (i := 225) rfl), rfl⟩
set_option maxRecDepth 20000 in
theorem kw_285 : Cond.instanceMethod ⟨"KettleChoir$Reader", "expr", "(I)V"⟩ ∈ kt_T := List.mem_filter.mpr ⟨kc_tables_1_3 _ (List.mem_of_getElem? (i := 227) rfl), rfl⟩
set_option maxRecDepth 20000 in
theorem kw_286 : Cond.selects "KettleChoir$Reader" ⟨"KettleChoir$Reader", "expr", "(I)V"⟩ ⟨"KettleChoir$Reader", "expr", "(I)V"⟩ ∈ kt_T := List.mem_filter.mpr ⟨kc_lw_privs_2 (⟨"KettleChoir$Reader", "expr", "(I)V"⟩, 11) (List.mem_of_getElem? (i := 9) rfl), rfl⟩
set_option maxRecDepth 20000 in
theorem kw_287 : Cond.code ⟨"KettleChoir$Reader", "liftsLine", "()V"⟩ prog_8_method_10_code 1 none ∈ kt_T := List.mem_filter.mpr ⟨kc_tables_1_3 _ (List.mem_of_getElem? (i := 224) rfl), rfl⟩
set_option maxRecDepth 20000 in
theorem kw_288 : Cond.methodLink "KettleChoir$Reader" 147 ⟨"KettleChoir$Reader", "isSign", "(C)Z"⟩ ∈ kt_T := List.mem_filter.mpr ⟨kc_tables_1_3 _ (List.mem_of_getElem? (i := 229) rfl), rfl⟩
set_option maxRecDepth 20000 in
theorem kw_289 : Cond.instanceMethod ⟨"KettleChoir$Reader", "isSign", "(C)Z"⟩ ∈ kt_T := List.mem_filter.mpr ⟨kc_tables_1_3 _ (List.mem_of_getElem? (i := 231) rfl), rfl⟩
set_option maxRecDepth 20000 in
theorem kw_290 : Cond.selects "KettleChoir$Reader" ⟨"KettleChoir$Reader", "isSign", "(C)Z"⟩ ⟨"KettleChoir$Reader", "isSign", "(C)Z"⟩ ∈ kt_T := List.mem_filter.mpr ⟨kc_lw_privs_2 (⟨"KettleChoir$Reader", "isSign", "(C)Z"⟩, 11) (List.mem_of_getElem? (i := 10) rfl), rfl⟩
set_option maxRecDepth 20000 in
theorem kw_291 : Cond.methodLink "KettleChoir$Reader" 151 ⟨"KettleChoir$Reader", "both", "(I)V"⟩ ∈ kt_T := List.mem_filter.mpr ⟨kc_tables_1_3 _ (List.mem_of_getElem? (i := 233) rfl), rfl⟩
set_option maxRecDepth 20000 in
theorem kw_292 : Cond.instanceMethod ⟨"KettleChoir$Reader", "both", "(I)V"⟩ ∈ kt_T := List.mem_filter.mpr ⟨kc_tables_1_3 _ (List.mem_of_getElem? (i := 235) rfl), rfl⟩
set_option maxRecDepth 20000 in
theorem kw_293 : Cond.selects "KettleChoir$Reader" ⟨"KettleChoir$Reader", "both", "(I)V"⟩ ⟨"KettleChoir$Reader", "both", "(I)V"⟩ ∈ kt_T := List.mem_filter.mpr ⟨kc_lw_privs_2 (⟨"KettleChoir$Reader", "both", "(I)V"⟩, 11) (List.mem_of_getElem? (i := 11) rfl), rfl⟩
set_option maxRecDepth 20000 in
theorem kw_294 : Cond.fieldLink "KettleChoir$Reader" 156 "KettleChoir$Kitchen" "rule" "LKettleChoir$Rule;" ∈ kt_T := List.mem_filter.mpr ⟨kc_tables_1_1 _ (List.mem_of_getElem? (i := 91) rfl), rfl⟩
set_option maxRecDepth 20000 in
theorem kw_295 : Cond.methodLink "KettleChoir$Reader" 162 ⟨"KettleChoir$Rule", "add", "(I)V"⟩ ∈ kt_T := List.mem_filter.mpr ⟨kc_tables_1_4 _ (List.mem_of_getElem? (i := 14) rfl), rfl⟩
set_option maxRecDepth 20000 in
theorem kw_296 : Cond.instanceMethod ⟨"KettleChoir$Rule", "add", "(I)V"⟩ ∈ kt_T := List.mem_filter.mpr ⟨kc_tables_1_4 _ (List.mem_of_getElem? (i := 15) rfl), rfl⟩
set_option maxRecDepth 20000 in
theorem kw_297 : Cond.selects "KettleChoir$Rule" ⟨"KettleChoir$Rule", "add", "(I)V"⟩ ⟨"KettleChoir$Rule", "add", "(I)V"⟩ ∈ kt_T := List.mem_filter.mpr ⟨kc_tables_1_4 _ (List.mem_of_getElem? (i := 16) rfl), rfl⟩
set_option maxRecDepth 20000 in
theorem kw_298 : Cond.code ⟨"KettleChoir$Reader", "expr", "(I)V"⟩ prog_8_method_11_code 3 none ∈ kt_T := List.mem_filter.mpr ⟨kc_tables_1_3 _ (List.mem_of_getElem? (i := 228) rfl), rfl⟩
set_option maxRecDepth 20000 in
theorem kw_299 : Cond.methodLink "KettleChoir$Reader" 165 ⟨"KettleChoir$Reader", "test", "(I)V"⟩ ∈ kt_T := List.mem_filter.mpr ⟨kc_tables_1_3 _ (List.mem_of_getElem? (i := 237) rfl), rfl⟩
set_option maxRecDepth 20000 in
theorem kw_300 : Cond.instanceMethod ⟨"KettleChoir$Reader", "test", "(I)V"⟩ ∈ kt_T := List.mem_filter.mpr ⟨kc_tables_1_3 _ (List.mem_of_getElem? (i := 239) rfl), rfl⟩
set_option maxRecDepth 20000 in
theorem kw_301 : Cond.selects "KettleChoir$Reader" ⟨"KettleChoir$Reader", "test", "(I)V"⟩ ⟨"KettleChoir$Reader", "test", "(I)V"⟩ ∈ kt_T := List.mem_filter.mpr ⟨kc_lw_privs_2 (⟨"KettleChoir$Reader", "test", "(I)V"⟩, 11) (List.mem_of_getElem? (i := 12) rfl), rfl⟩
set_option maxRecDepth 20000 in
theorem kw_302 : Cond.code ⟨"KettleChoir$Reader", "both", "(I)V"⟩ prog_8_method_12_code 3 none ∈ kt_T := List.mem_filter.mpr ⟨kc_tables_1_3 _ (List.mem_of_getElem? (i := 236) rfl), rfl⟩
set_option maxRecDepth 20000 in
theorem kw_303 : Cond.methodLink "KettleChoir$Reader" 172 ⟨"KettleChoir$Reader", "sum", "(I)V"⟩ ∈ kt_T := List.mem_filter.mpr ⟨kc_tables_1_4 _ (List.mem_of_getElem? (i := 2) rfl), rfl⟩
set_option maxRecDepth 20000 in
theorem kw_304 : Cond.instanceMethod ⟨"KettleChoir$Reader", "sum", "(I)V"⟩ ∈ kt_T := List.mem_filter.mpr ⟨kc_tables_1_4 _ (List.mem_of_getElem? (i := 4) rfl), rfl⟩
set_option maxRecDepth 20000 in
theorem kw_305 : Cond.selects "KettleChoir$Reader" ⟨"KettleChoir$Reader", "sum", "(I)V"⟩ ⟨"KettleChoir$Reader", "sum", "(I)V"⟩ ∈ kt_T := List.mem_filter.mpr ⟨kc_lw_privs_2 (⟨"KettleChoir$Reader", "sum", "(I)V"⟩, 11) (List.mem_of_getElem? (i := 13) rfl), rfl⟩
set_option maxRecDepth 20000 in
theorem kw_306 : Cond.code ⟨"KettleChoir$Reader", "test", "(I)V"⟩ prog_8_method_13_code 4 none ∈ kt_T := List.mem_filter.mpr ⟨kc_tables_1_4 _ (List.mem_of_getElem? (i := 0) rfl), rfl⟩
set_option maxRecDepth 20000 in
theorem kw_307 : Cond.methodLink "KettleChoir$Reader" 175 ⟨"KettleChoir$Reader", "product", "(I)V"⟩ ∈ kt_T := List.mem_filter.mpr ⟨kc_tables_1_4 _ (List.mem_of_getElem? (i := 6) rfl), rfl⟩
set_option maxRecDepth 20000 in
theorem kw_308 : Cond.instanceMethod ⟨"KettleChoir$Reader", "product", "(I)V"⟩ ∈ kt_T := List.mem_filter.mpr ⟨kc_tables_1_4 _ (List.mem_of_getElem? (i := 8) rfl), rfl⟩
set_option maxRecDepth 20000 in
theorem kw_309 : Cond.selects "KettleChoir$Reader" ⟨"KettleChoir$Reader", "product", "(I)V"⟩ ⟨"KettleChoir$Reader", "product", "(I)V"⟩ ∈ kt_T := List.mem_filter.mpr ⟨kc_lw_privs_2 (⟨"KettleChoir$Reader", "product", "(I)V"⟩, 11) (List.mem_of_getElem? (i := 14) rfl), rfl⟩
set_option maxRecDepth 20000 in
theorem kw_310 : Cond.code ⟨"KettleChoir$Reader", "sum", "(I)V"⟩ prog_8_method_14_code 4 none ∈ kt_T := List.mem_filter.mpr ⟨kc_tables_1_4 _ (List.mem_of_getElem? (i := 5) rfl), rfl⟩
set_option maxRecDepth 20000 in
theorem kw_311 : Cond.methodLink "KettleChoir$Reader" 178 ⟨"KettleChoir$Reader", "part", "(I)V"⟩ ∈ kt_T := List.mem_filter.mpr ⟨kc_tables_1_4 _ (List.mem_of_getElem? (i := 10) rfl), rfl⟩
set_option maxRecDepth 20000 in
theorem kw_312 : Cond.instanceMethod ⟨"KettleChoir$Reader", "part", "(I)V"⟩ ∈ kt_T := List.mem_filter.mpr ⟨kc_tables_1_4 _ (List.mem_of_getElem? (i := 12) rfl), rfl⟩
set_option maxRecDepth 20000 in
theorem kw_313 : Cond.selects "KettleChoir$Reader" ⟨"KettleChoir$Reader", "part", "(I)V"⟩ ⟨"KettleChoir$Reader", "part", "(I)V"⟩ ∈ kt_T := List.mem_filter.mpr ⟨kc_lw_privs_2 (⟨"KettleChoir$Reader", "part", "(I)V"⟩, 11) (List.mem_of_getElem? (i := 15) rfl), rfl⟩
set_option maxRecDepth 20000 in
theorem kw_314 : Cond.code ⟨"KettleChoir$Reader", "product", "(I)V"⟩ prog_8_method_15_code 4 none ∈ kt_T := List.mem_filter.mpr ⟨kc_tables_1_4 _ (List.mem_of_getElem? (i := 9) rfl), rfl⟩
set_option maxRecDepth 20000 in
theorem kw_315 : Cond.methodLink "KettleChoir$Reader" 181 ⟨"KettleChoir$Reader", "valueWord", "()I"⟩ ∈ kt_T := List.mem_filter.mpr ⟨kc_tables_1_4 _ (List.mem_of_getElem? (i := 18) rfl), rfl⟩
set_option maxRecDepth 20000 in
theorem kw_316 : Cond.instanceMethod ⟨"KettleChoir$Reader", "valueWord", "()I"⟩ ∈ kt_T := List.mem_filter.mpr ⟨kc_tables_1_4 _ (List.mem_of_getElem? (i := 20) rfl), rfl⟩
set_option maxRecDepth 20000 in
theorem kw_317 : Cond.selects "KettleChoir$Reader" ⟨"KettleChoir$Reader", "valueWord", "()I"⟩ ⟨"KettleChoir$Reader", "valueWord", "()I"⟩ ∈ kt_T := List.mem_filter.mpr ⟨kc_lw_privs_3 (⟨"KettleChoir$Reader", "valueWord", "()I"⟩, 11) (List.mem_of_getElem? (i := 0) rfl), rfl⟩
set_option maxRecDepth 20000 in
theorem kw_318 : Cond.code ⟨"KettleChoir$Reader", "part", "(I)V"⟩ prog_8_method_16_code 3 none ∈ kt_T := List.mem_filter.mpr ⟨kc_tables_1_4 _ (List.mem_of_getElem? (i := 13) rfl), rfl⟩
set_option maxRecDepth 20000 in
theorem kw_319 : Cond.code ⟨"KettleChoir$Reader", "kettleWord", "()I"⟩ prog_8_method_17_code 1 (some .int) ∈ kt_T := List.mem_filter.mpr ⟨kc_tables_1_3 _ (List.mem_of_getElem? (i := 129) rfl), rfl⟩
set_option maxRecDepth 20000 in
theorem kw_320 : Cond.code ⟨"KettleChoir$Reader", "valueWord", "()I"⟩ prog_8_method_18_code 1 (some .int) ∈ kt_T := List.mem_filter.mpr ⟨kc_tables_1_4 _ (List.mem_of_getElem? (i := 21) rfl), rfl⟩
set_option maxRecDepth 20000 in
theorem kw_321 : Cond.code ⟨"KettleChoir$Reader", "numberOf", "(II)I"⟩ prog_8_method_19_code 4 (some .int) ∈ kt_T := List.mem_filter.mpr ⟨kc_tables_1_3 _ (List.mem_of_getElem? (i := 197) rfl), rfl⟩
set_option maxRecDepth 20000 in
theorem kw_322 : Cond.fieldLink "KettleChoir$Reader" 206 "KettleChoir$Reader" "start" "I" ∈ kt_T := List.mem_filter.mpr ⟨kc_tables_1_1 _ (List.mem_of_getElem? (i := 151) rfl), rfl⟩
set_option maxRecDepth 20000 in
theorem kw_323 : Cond.code ⟨"KettleChoir$Reader", "needNumber", "(II)Z"⟩ prog_8_method_20_code 3 (some .boolean) ∈ kt_T := List.mem_filter.mpr ⟨kc_tables_1_3 _ (List.mem_of_getElem? (i := 201) rfl), rfl⟩
set_option maxRecDepth 20000 in
theorem kw_324 : Cond.code ⟨"KettleChoir$Reader", "expect", "(C)V"⟩ prog_8_method_21_code 2 none ∈ kt_T := List.mem_filter.mpr ⟨kc_tables_1_4 _ (List.mem_of_getElem? (i := 32) rfl), rfl⟩
set_option maxRecDepth 20000 in
theorem kw_325 : Cond.code ⟨"KettleChoir$Reader", "fail", "(I)V"⟩ prog_8_method_22_code 2 none ∈ kt_T := List.mem_filter.mpr ⟨kc_tables_1_3 _ (List.mem_of_getElem? (i := 193) rfl), rfl⟩
set_option maxRecDepth 20000 in
theorem kw_326 : Cond.methodLink "KettleChoir$Reader" 209 ⟨"java/lang/String", "length", "()I"⟩ ∈ kt_T := List.mem_filter.mpr ⟨kc_tables_1_3 _ (List.mem_of_getElem? (i := 135) rfl), rfl⟩
set_option maxRecDepth 20000 in
theorem kw_327 : Cond.methodLink "KettleChoir$Reader" 214 ⟨"java/lang/String", "charAt", "(I)C"⟩ ∈ kt_T := List.mem_filter.mpr ⟨kc_tables_1_3 _ (List.mem_of_getElem? (i := 145) rfl), rfl⟩
set_option maxRecDepth 20000 in
theorem kw_328 : Cond.code ⟨"KettleChoir$Reader", "isWord", "(Ljava/lang/String;)Z"⟩ prog_8_method_23_code 3 (some .boolean) ∈ kt_T := List.mem_filter.mpr ⟨kc_tables_1_3 _ (List.mem_of_getElem? (i := 134) rfl), rfl⟩
set_option maxRecDepth 20000 in
theorem kw_329 : Cond.code ⟨"KettleChoir$Reader", "isSign", "(C)Z"⟩ prog_8_method_24_code 2 (some .boolean) ∈ kt_T := List.mem_filter.mpr ⟨kc_tables_1_3 _ (List.mem_of_getElem? (i := 232) rfl), rfl⟩
set_option maxRecDepth 20000 in
theorem kw_330 : Cond.methodLink "KettleChoir$Reader" 218 ⟨"KettleChoir$Reader", "sortAt", "(I)I"⟩ ∈ kt_T := List.mem_filter.mpr ⟨kc_tables_1_3 _ (List.mem_of_getElem? (i := 118) rfl), rfl⟩
set_option maxRecDepth 20000 in
theorem kw_331 : Cond.instanceMethod ⟨"KettleChoir$Reader", "sortAt", "(I)I"⟩ ∈ kt_T := List.mem_filter.mpr ⟨kc_tables_1_3 _ (List.mem_of_getElem? (i := 120) rfl), rfl⟩
set_option maxRecDepth 20000 in
theorem kw_332 : Cond.selects "KettleChoir$Reader" ⟨"KettleChoir$Reader", "sortAt", "(I)I"⟩ ⟨"KettleChoir$Reader", "sortAt", "(I)I"⟩ ∈ kt_T := List.mem_filter.mpr ⟨kc_lw_privs_1 (⟨"KettleChoir$Reader", "sortAt", "(I)I"⟩, 11) (List.mem_of_getElem? (i := 12) rfl), rfl⟩
set_option maxRecDepth 20000 in
theorem kw_333 : Cond.code ⟨"KettleChoir$Reader", "advance", "()V"⟩ prog_8_method_25_code 1 none ∈ kt_T := List.mem_filter.mpr ⟨kc_tables_1_3 _ (List.mem_of_getElem? (i := 117) rfl), rfl⟩
set_option maxRecDepth 20000 in
theorem kw_334 : Cond.code ⟨"KettleChoir$Reader", "sortAt", "(I)I"⟩ prog_8_method_26_code 3 (some .int) ∈ kt_T := List.mem_filter.mpr ⟨kc_tables_1_3 _ (List.mem_of_getElem? (i := 121) rfl), rfl⟩
set_option maxRecDepth 20000 in
theorem kw_335 : Cond.methodLink "KettleChoir$Rule" 5 ⟨"java/lang/Object", "<init>", "()V"⟩ ∈ kt_T := List.mem_filter.mpr ⟨kc_tables_1_1 _ (List.mem_of_getElem? (i := 50) rfl), rfl⟩
set_option maxRecDepth 20000 in
theorem kw_336 : Cond.fieldLink "KettleChoir$Rule" 11 "KettleChoir$Rule" "code" "[I" ∈ kt_T := List.mem_filter.mpr ⟨kc_tables_1_1 _ (List.mem_of_getElem? (i := 51) rfl), rfl⟩
set_option maxRecDepth 20000 in
theorem kw_337 : Cond.fieldLink "KettleChoir$Rule" 15 "KettleChoir$Rule" "stack" "[I" ∈ kt_T := List.mem_filter.mpr ⟨kc_tables_1_1 _ (List.mem_of_getElem? (i := 52) rfl), rfl⟩
set_option maxRecDepth 20000 in
theorem kw_338 : Cond.initialized "KettleChoir$Rule" ∈ kt_T := List.mem_filter.mpr ⟨kc_tables_1_1 _ (List.mem_of_getElem? (i := 4) rfl), rfl⟩
set_option maxRecDepth 20000 in
theorem kw_339 : Cond.code ⟨"KettleChoir$Rule", "<init>", "()V"⟩ prog_9_method_1_code 1 none ∈ kt_T := List.mem_filter.mpr ⟨kc_tables_1_1 _ (List.mem_of_getElem? (i := 49) rfl), rfl⟩
set_option maxRecDepth 20000 in
theorem kw_340 : Cond.fieldLink "KettleChoir$Rule" 18 "KettleChoir$Rule" "length" "I" ∈ kt_T := List.mem_filter.mpr ⟨kc_tables_1_1 _ (List.mem_of_getElem? (i := 53) rfl), rfl⟩
set_option maxRecDepth 20000 in
theorem kw_341 : Cond.code ⟨"KettleChoir$Rule", "add", "(I)V"⟩ prog_9_method_2_code 2 none ∈ kt_T := List.mem_filter.mpr ⟨kc_tables_1_4 _ (List.mem_of_getElem? (i := 17) rfl), rfl⟩
set_option maxRecDepth 20000 in
theorem kw_342 : Cond.methodLink "KettleChoir$Rule" 22 ⟨"java/lang/System", "arraycopy", "(Ljava/lang/Object;ILjava/lang/Object;II)V"⟩ ∈ kt_T := List.mem_filter.mpr ⟨kc_tables_1_4 _ (List.mem_of_getElem? (i := 44) rfl), rfl⟩
set_option maxRecDepth 20000 in
theorem kw_343 : Cond.code ⟨"KettleChoir$Rule", "take", "(LKettleChoir$Rule;)V"⟩ prog_9_method_3_code 2 none ∈ kt_T := List.mem_filter.mpr ⟨kc_tables_1_4 _ (List.mem_of_getElem? (i := 43) rfl), rfl⟩
set_option maxRecDepth 20000 in
theorem kw_344 : Cond.methodLink "KettleChoir$Rule" 28 ⟨"KettleChoir$Rule", "joined", "(III)I"⟩ ∈ kt_T := List.mem_filter.mpr ⟨kc_tables_1_2 _ (List.mem_of_getElem? (i := 181) rfl), rfl⟩
set_option maxRecDepth 20000 in
theorem kw_345 : Cond.instanceMethod ⟨"KettleChoir$Rule", "joined", "(III)I"⟩ ∈ kt_T := List.mem_filter.mpr ⟨kc_tables_1_2 _ (List.mem_of_getElem? (i := 183) rfl), rfl⟩
set_option maxRecDepth 20000 in
theorem kw_346 : Cond.selects "KettleChoir$Rule" ⟨"KettleChoir$Rule", "joined", "(III)I"⟩ ⟨"KettleChoir$Rule", "joined", "(III)I"⟩ ∈ kt_T := List.mem_filter.mpr ⟨kc_lw_privs_1 (⟨"KettleChoir$Rule", "joined", "(III)I"⟩, 3) (List.mem_of_getElem? (i := 7) rfl), rfl⟩
set_option maxRecDepth 20000 in
theorem kw_347 : Cond.code ⟨"KettleChoir$Rule", "gives", "([I)I"⟩ prog_9_method_4_code 5 (some .int) ∈ kt_T := List.mem_filter.mpr ⟨kc_tables_1_2 _ (List.mem_of_getElem? (i := 180) rfl), rfl⟩
set_option maxRecDepth 20000 in
theorem kw_348 : Cond.code ⟨"KettleChoir$Rule", "joined", "(III)I"⟩ prog_9_method_5_code 4 (some .int) ∈ kt_T := List.mem_filter.mpr ⟨kc_tables_1_2 _ (List.mem_of_getElem? (i := 184) rfl), rfl⟩
set_option maxRecDepth 20000 in
theorem kw_349 : Cond.methodLink "KettleChoir$Tuner" 3 ⟨"java/lang/Object", "<init>", "()V"⟩ ∈ kt_T := List.mem_filter.mpr ⟨kc_tables_1_2 _ (List.mem_of_getElem? (i := 47) rfl), rfl⟩
set_option maxRecDepth 20000 in
theorem kw_350 : Cond.fieldLink "KettleChoir$Tuner" 11 "KettleChoir$Tuner" "note" "[I" ∈ kt_T := List.mem_filter.mpr ⟨kc_tables_1_2 _ (List.mem_of_getElem? (i := 48) rfl), rfl⟩
set_option maxRecDepth 20000 in
theorem kw_351 : Cond.fieldLink "KettleChoir$Tuner" 15 "KettleChoir$Tuner" "cost" "[I" ∈ kt_T := List.mem_filter.mpr ⟨kc_tables_1_2 _ (List.mem_of_getElem? (i := 49) rfl), rfl⟩
set_option maxRecDepth 20000 in
theorem kw_352 : Cond.fieldLink "KettleChoir$Tuner" 18 "KettleChoir$Tuner" "cups" "[I" ∈ kt_T := List.mem_filter.mpr ⟨kc_tables_1_2 _ (List.mem_of_getElem? (i := 50) rfl), rfl⟩
set_option maxRecDepth 20000 in
theorem kw_353 : Cond.initialized "KettleChoir$Tuner" ∈ kt_T := List.mem_filter.mpr ⟨kc_tables_1_1 _ (List.mem_of_getElem? (i := 9) rfl), rfl⟩
set_option maxRecDepth 20000 in
theorem kw_354 : Cond.code ⟨"KettleChoir$Tuner", "<init>", "()V"⟩ prog_10_method_1_code 1 none ∈ kt_T := List.mem_filter.mpr ⟨kc_tables_1_2 _ (List.mem_of_getElem? (i := 46) rfl), rfl⟩
set_option maxRecDepth 20000 in
theorem kw_355 : Cond.constant "KettleChoir$Tuner" 21 (1000000 : Int32) ∈ kt_T := List.mem_filter.mpr ⟨kc_tables_1_5 _ (List.mem_of_getElem? (i := 26) rfl), rfl⟩
set_option maxRecDepth 20000 in
theorem kw_356 : Cond.fieldLink "KettleChoir$Tuner" 22 "KettleChoir$Kitchen" "size" "[I" ∈ kt_T := List.mem_filter.mpr ⟨kc_tables_1_1 _ (List.mem_of_getElem? (i := 71) rfl), rfl⟩
set_option maxRecDepth 20000 in
theorem kw_357 : Cond.methodLink "KettleChoir$Tuner" 27 ⟨"java/lang/Math", "abs", "(I)I"⟩ ∈ kt_T := List.mem_filter.mpr ⟨kc_tables_1_5 _ (List.mem_of_getElem? (i := 27) rfl), rfl⟩
set_option maxRecDepth 20000 in
theorem kw_358 : Cond.static ⟨"java/lang/Math", "abs", "(I)I"⟩ ∈ kt_T := List.mem_filter.mpr ⟨kc_tables_1_4 _ (List.mem_of_getElem? (i := 81) rfl), rfl⟩
set_option maxRecDepth 20000 in
theorem kw_359 : Cond.code ⟨"java/lang/Math", "abs", "(I)I"⟩ prog_19_method_59_code 1 (some .int) ∈ kt_T := List.mem_filter.mpr ⟨kc_tables_1_4 _ (List.mem_of_getElem? (i := 82) rfl), rfl⟩
set_option maxRecDepth 20000 in
theorem kw_360 : Cond.methodLink "KettleChoir$Tuner" 33 ⟨"KettleChoir$Kitchen", "noteOf", "(IIII)I"⟩ ∈ kt_T := List.mem_filter.mpr ⟨kc_tables_1_5 _ (List.mem_of_getElem? (i := 28) rfl), rfl⟩
set_option maxRecDepth 20000 in
theorem kw_361 : Cond.code ⟨"KettleChoir$Tuner", "nearestFill", "(LKettleChoir$Kitchen;[III)I"⟩ prog_10_method_2_code 10 (some .int) ∈ kt_T := List.mem_filter.mpr ⟨kc_tables_1_5 _ (List.mem_of_getElem? (i := 25) rfl), rfl⟩
set_option maxRecDepth 20000 in
theorem kw_362 : Cond.fieldLink "KettleChoir$Tuner" 37 "KettleChoir$Kitchen" "steps" "[I" ∈ kt_T := List.mem_filter.mpr ⟨kc_tables_1_1 _ (List.mem_of_getElem? (i := 82) rfl), rfl⟩
set_option maxRecDepth 20000 in
theorem kw_363 : Cond.fieldLink "KettleChoir$Tuner" 40 "KettleChoir$Kitchen" "step" "[I" ∈ kt_T := List.mem_filter.mpr ⟨kc_tables_1_1 _ (List.mem_of_getElem? (i := 87) rfl), rfl⟩
set_option maxRecDepth 20000 in
theorem kw_364 : Cond.methodLink "KettleChoir$Tuner" 43 ⟨"java/lang/Math", "min", "(II)I"⟩ ∈ kt_T := List.mem_filter.mpr ⟨kc_tables_1_5 _ (List.mem_of_getElem? (i := 40) rfl), rfl⟩
set_option maxRecDepth 20000 in
theorem kw_365 : Cond.methodLink "KettleChoir$Tuner" 47 ⟨"KettleChoir$Tuner", "cupsFor", "(LKettleChoir$Kitchen;[II)I"⟩ ∈ kt_T := List.mem_filter.mpr ⟨kc_tables_1_5 _ (List.mem_of_getElem? (i := 41) rfl), rfl⟩
set_option maxRecDepth 20000 in
theorem kw_366 : Cond.instanceMethod ⟨"KettleChoir$Tuner", "cupsFor", "(LKettleChoir$Kitchen;[II)I"⟩ ∈ kt_T := List.mem_filter.mpr ⟨kc_tables_1_5 _ (List.mem_of_getElem? (i := 43) rfl), rfl⟩
set_option maxRecDepth 20000 in
theorem kw_367 : Cond.selects "KettleChoir$Tuner" ⟨"KettleChoir$Tuner", "cupsFor", "(LKettleChoir$Kitchen;[II)I"⟩ ⟨"KettleChoir$Tuner", "cupsFor", "(LKettleChoir$Kitchen;[II)I"⟩ ∈ kt_T := List.mem_filter.mpr ⟨kc_lw_privs_3 (⟨"KettleChoir$Tuner", "cupsFor", "(LKettleChoir$Kitchen;[II)I"⟩, 3) (List.mem_of_getElem? (i := 15) rfl), rfl⟩
set_option maxRecDepth 20000 in
theorem kw_368 : Cond.code ⟨"KettleChoir$Tuner", "leastCups", "(LKettleChoir$Kitchen;[II)I"⟩ prog_10_method_3_code 8 (some .int) ∈ kt_T := List.mem_filter.mpr ⟨kc_tables_1_5 _ (List.mem_of_getElem? (i := 39) rfl), rfl⟩
set_option maxRecDepth 20000 in
theorem kw_369 : Cond.methodLink "KettleChoir$Tuner" 51 ⟨"java/util/Arrays", "fill", "([II)V"⟩ ∈ kt_T := List.mem_filter.mpr ⟨kc_tables_1_5 _ (List.mem_of_getElem? (i := 45) rfl), rfl⟩
set_option maxRecDepth 20000 in
theorem kw_370 : Cond.fieldLink "KettleChoir$Tuner" 57 "KettleChoir$Kitchen" "kettles" "I" ∈ kt_T := List.mem_filter.mpr ⟨kc_tables_1_1 _ (List.mem_of_getElem? (i := 96) rfl), rfl⟩
set_option maxRecDepth 20000 in
theorem kw_371 : Cond.methodLink "KettleChoir$Tuner" 61 ⟨"KettleChoir$Tuner", "cupsTo", "(LKettleChoir$Kitchen;[III)I"⟩ ∈ kt_T := List.mem_filter.mpr ⟨kc_tables_1_5 _ (List.mem_of_getElem? (i := 46) rfl), rfl⟩
set_option maxRecDepth 20000 in
theorem kw_372 : Cond.instanceMethod ⟨"KettleChoir$Tuner", "cupsTo", "(LKettleChoir$Kitchen;[III)I"⟩ ∈ kt_T := List.mem_filter.mpr ⟨kc_tables_1_5 _ (List.mem_of_getElem? (i := 48) rfl), rfl⟩
set_option maxRecDepth 20000 in
theorem kw_373 : Cond.selects "KettleChoir$Tuner" ⟨"KettleChoir$Tuner", "cupsTo", "(LKettleChoir$Kitchen;[III)I"⟩ ⟨"KettleChoir$Tuner", "cupsTo", "(LKettleChoir$Kitchen;[III)I"⟩ ∈ kt_T := List.mem_filter.mpr ⟨kc_lw_privs_4 (⟨"KettleChoir$Tuner", "cupsTo", "(LKettleChoir$Kitchen;[III)I"⟩, 3) (List.mem_of_getElem? (i := 0) rfl), rfl⟩
set_option maxRecDepth 20000 in
theorem kw_374 : Cond.methodLink "KettleChoir$Tuner" 65 ⟨"KettleChoir$Tuner", "join", "(I)V"⟩ ∈ kt_T := List.mem_filter.mpr ⟨kc_tables_1_5 _ (List.mem_of_getElem? (i := 51) rfl), rfl⟩
set_option maxRecDepth 20000 in
theorem kw_375 : Cond.instanceMethod ⟨"KettleChoir$Tuner", "join", "(I)V"⟩ ∈ kt_T := List.mem_filter.mpr ⟨kc_tables_1_5 _ (List.mem_of_getElem? (i := 53) rfl), rfl⟩
set_option maxRecDepth 20000 in
theorem kw_376 : Cond.selects "KettleChoir$Tuner" ⟨"KettleChoir$Tuner", "join", "(I)V"⟩ ⟨"KettleChoir$Tuner", "join", "(I)V"⟩ ∈ kt_T := List.mem_filter.mpr ⟨kc_lw_privs_4 (⟨"KettleChoir$Tuner", "join", "(I)V"⟩, 3) (List.mem_of_getElem? (i := 1) rfl), rfl⟩
set_option maxRecDepth 20000 in
theorem kw_377 : Cond.code ⟨"KettleChoir$Tuner", "cupsFor", "(LKettleChoir$Kitchen;[II)I"⟩ prog_10_method_4_code 7 (some .int) ∈ kt_T := List.mem_filter.mpr ⟨kc_tables_1_5 _ (List.mem_of_getElem? (i := 44) rfl), rfl⟩
set_option maxRecDepth 20000 in
theorem kw_378 : Cond.methodLink "KettleChoir$Tuner" 69 ⟨"KettleChoir$Tuner", "nearestFill", "(LKettleChoir$Kitchen;[III)I"⟩ ∈ kt_T := List.mem_filter.mpr ⟨kc_tables_1_5 _ (List.mem_of_getElem? (i := 50) rfl), rfl⟩
set_option maxRecDepth 20000 in
theorem kw_379 : Cond.instanceMethod ⟨"KettleChoir$Tuner", "nearestFill", "(LKettleChoir$Kitchen;[III)I"⟩ ∈ kt_T := List.mem_filter.mpr ⟨kc_tables_1_5 _ (List.mem_of_getElem? (i := 23) rfl), rfl⟩
set_option maxRecDepth 20000 in
theorem kw_380 : Cond.selects "KettleChoir$Tuner" ⟨"KettleChoir$Tuner", "nearestFill", "(LKettleChoir$Kitchen;[III)I"⟩ ⟨"KettleChoir$Tuner", "nearestFill", "(LKettleChoir$Kitchen;[III)I"⟩ ∈ kt_T := List.mem_filter.mpr ⟨kc_tables_1_5 _ (List.mem_of_getElem? (i := 24) rfl), rfl⟩
set_option maxRecDepth 20000 in
theorem kw_381 : Cond.code ⟨"KettleChoir$Tuner", "cupsTo", "(LKettleChoir$Kitchen;[III)I"⟩ prog_10_method_5_code 6 (some .int) ∈ kt_T := List.mem_filter.mpr ⟨kc_tables_1_5 _ (List.mem_of_getElem? (i := 49) rfl), rfl⟩
set_option maxRecDepth 20000 in
theorem kw_382 : Cond.code ⟨"KettleChoir$Tuner", "join", "(I)V"⟩ prog_10_method_6_code 5 none ∈ kt_T := List.mem_filter.mpr ⟨kc_tables_1_5 _ (List.mem_of_getElem? (i := 54) rfl), rfl⟩
set_option maxRecDepth 20000 in
theorem kw_383 : Cond.methodLink "KettleChoir" 3 ⟨"java/lang/Object", "<init>", "()V"⟩ ∈ kt_T := List.mem_filter.mpr ⟨kc_tables_1_1 _ (List.mem_of_getElem? (i := 30) rfl), rfl⟩
set_option maxRecDepth 20000 in
theorem kw_384 : Cond.classLink "KettleChoir" 9 "KettleChoir$Reader" ∈ kt_T := List.mem_filter.mpr ⟨kc_tables_1_1 _ (List.mem_of_getElem? (i := 33) rfl), rfl⟩
set_option maxRecDepth 20000 in
theorem kw_385 : Cond.instanceMethod ⟨"KettleChoir$Reader", "<init>", "()V"⟩ ∈ kt_T := List.mem_filter.mpr ⟨kc_tables_1_1 _ (List.mem_of_getElem? (i := 36) rfl), rfl⟩
set_option maxRecDepth 20000 in
theorem kw_386 : Cond.fieldLink "KettleChoir" 12 "KettleChoir" "reader" "LKettleChoir$Reader;" ∈ kt_T := List.mem_filter.mpr ⟨kc_tables_1_2 _ (List.mem_of_getElem? (i := 58) rfl), rfl⟩
set_option maxRecDepth 20000 in
theorem kw_387 : Cond.classLink "KettleChoir" 16 "KettleChoir$Kitchen" ∈ kt_T := List.mem_filter.mpr ⟨kc_tables_1_1 _ (List.mem_of_getElem? (i := 178) rfl), rfl⟩
set_option maxRecDepth 20000 in
theorem kw_388 : Cond.fieldLink "KettleChoir" 19 "KettleChoir" "place" "LKettleChoir$Kitchen;" ∈ kt_T := List.mem_filter.mpr ⟨kc_tables_1_2 _ (List.mem_of_getElem? (i := 59) rfl), rfl⟩
set_option maxRecDepth 20000 in
theorem kw_389 : Cond.fieldLink "KettleChoir" 23 "KettleChoir" "now" "[I" ∈ kt_T := List.mem_filter.mpr ⟨kc_tables_1_2 _ (List.mem_of_getElem? (i := 60) rfl), rfl⟩
set_option maxRecDepth 20000 in
theorem kw_390 : Cond.fieldLink "KettleChoir" 27 "KettleChoir" "trial" "[I" ∈ kt_T := List.mem_filter.mpr ⟨kc_tables_1_2 _ (List.mem_of_getElem? (i := 61) rfl), rfl⟩
set_option maxRecDepth 20000 in
theorem kw_391 : Cond.fieldLink "KettleChoir" 30 "KettleChoir" "status" "[I" ∈ kt_T := List.mem_filter.mpr ⟨kc_tables_1_2 _ (List.mem_of_getElem? (i := 62) rfl), rfl⟩
set_option maxRecDepth 20000 in
theorem kw_392 : Cond.classLink "KettleChoir" 33 "KettleChoir$Acts" ∈ kt_T := List.mem_filter.mpr ⟨kc_tables_1_1 _ (List.mem_of_getElem? (i := 180) rfl), rfl⟩
set_option maxRecDepth 20000 in
theorem kw_393 : Cond.fieldLink "KettleChoir" 36 "KettleChoir" "acts" "LKettleChoir$Acts;" ∈ kt_T := List.mem_filter.mpr ⟨kc_tables_1_2 _ (List.mem_of_getElem? (i := 63) rfl), rfl⟩
set_option maxRecDepth 20000 in
theorem kw_394 : Cond.classLink "KettleChoir" 40 "KettleChoir$Heard" ∈ kt_T := List.mem_filter.mpr ⟨kc_tables_1_1 _ (List.mem_of_getElem? (i := 197) rfl), rfl⟩
set_option maxRecDepth 20000 in
theorem kw_395 : Cond.fieldLink "KettleChoir" 43 "KettleChoir" "heard" "LKettleChoir$Heard;" ∈ kt_T := List.mem_filter.mpr ⟨kc_tables_1_2 _ (List.mem_of_getElem? (i := 64) rfl), rfl⟩
set_option maxRecDepth 20000 in
theorem kw_396 : Cond.classLink "KettleChoir" 47 "KettleChoir$Ear" ∈ kt_T := List.mem_filter.mpr ⟨kc_tables_1_1 _ (List.mem_of_getElem? (i := 217) rfl), rfl⟩
set_option maxRecDepth 20000 in
theorem kw_397 : Cond.instanceMethod ⟨"KettleChoir$Ear", "<init>", "()V"⟩ ∈ kt_T := List.mem_filter.mpr ⟨kc_tables_1_1 _ (List.mem_of_getElem? (i := 220) rfl), rfl⟩
set_option maxRecDepth 20000 in
theorem kw_398 : Cond.fieldLink "KettleChoir" 50 "KettleChoir" "ear" "LKettleChoir$Ear;" ∈ kt_T := List.mem_filter.mpr ⟨kc_tables_1_2 _ (List.mem_of_getElem? (i := 65) rfl), rfl⟩
set_option maxRecDepth 20000 in
theorem kw_399 : Cond.classLink "KettleChoir" 54 "KettleChoir$Planner" ∈ kt_T := List.mem_filter.mpr ⟨kc_tables_1_2 _ (List.mem_of_getElem? (i := 17) rfl), rfl⟩
set_option maxRecDepth 20000 in
theorem kw_400 : Cond.instanceMethod ⟨"KettleChoir$Planner", "<init>", "()V"⟩ ∈ kt_T := List.mem_filter.mpr ⟨kc_tables_1_2 _ (List.mem_of_getElem? (i := 20) rfl), rfl⟩
set_option maxRecDepth 20000 in
theorem kw_401 : Cond.fieldLink "KettleChoir" 57 "KettleChoir" "planner" "LKettleChoir$Planner;" ∈ kt_T := List.mem_filter.mpr ⟨kc_tables_1_2 _ (List.mem_of_getElem? (i := 66) rfl), rfl⟩
set_option maxRecDepth 20000 in
theorem kw_402 : Cond.classLink "KettleChoir" 61 "KettleChoir$Tuner" ∈ kt_T := List.mem_filter.mpr ⟨kc_tables_1_2 _ (List.mem_of_getElem? (i := 42) rfl), rfl⟩
set_option maxRecDepth 20000 in
theorem kw_403 : Cond.instanceMethod ⟨"KettleChoir$Tuner", "<init>", "()V"⟩ ∈ kt_T := List.mem_filter.mpr ⟨kc_tables_1_2 _ (List.mem_of_getElem? (i := 45) rfl), rfl⟩
set_option maxRecDepth 20000 in
theorem kw_404 : Cond.fieldLink "KettleChoir" 64 "KettleChoir" "tuner" "LKettleChoir$Tuner;" ∈ kt_T := List.mem_filter.mpr ⟨kc_tables_1_2 _ (List.mem_of_getElem? (i := 67) rfl), rfl⟩
set_option maxRecDepth 20000 in
theorem kw_405 : Cond.initialized "KettleChoir" ∈ kt_T := List.mem_filter.mpr ⟨kc_tables_1_1 _ (List.mem_of_getElem? (i := 1) rfl), rfl⟩
set_option maxRecDepth 20000 in
theorem kw_406 : Cond.code ⟨"KettleChoir", "<init>", "()V"⟩ prog_1_method_1_code 1 none ∈ kt_T := List.mem_filter.mpr ⟨kc_tables_1_1 _ (List.mem_of_getElem? (i := 29) rfl), rfl⟩
set_option maxRecDepth 20000 in
theorem kw_407 : Cond.fieldLink "KettleChoir" 68 "KettleChoir$Reader" "taped" "I" ∈ kt_T := List.mem_filter.mpr ⟨kc_tables_1_1 _ (List.mem_of_getElem? (i := 144) rfl), rfl⟩
set_option maxRecDepth 20000 in
theorem kw_408 : Cond.methodLink "KettleChoir" 72 ⟨"KettleChoir$Reader", "append", "(I)V"⟩ ∈ kt_T := List.mem_filter.mpr ⟨kc_tables_1_2 _ (List.mem_of_getElem? (i := 99) rfl), rfl⟩
set_option maxRecDepth 20000 in
theorem kw_409 : Cond.instanceMethod ⟨"KettleChoir$Reader", "append", "(I)V"⟩ ∈ kt_T := List.mem_filter.mpr ⟨kc_tables_1_2 _ (List.mem_of_getElem? (i := 100) rfl), rfl⟩
set_option maxRecDepth 20000 in
theorem kw_410 : Cond.selects "KettleChoir$Reader" ⟨"KettleChoir$Reader", "append", "(I)V"⟩ ⟨"KettleChoir$Reader", "append", "(I)V"⟩ ∈ kt_T := List.mem_filter.mpr ⟨kc_tables_1_2 _ (List.mem_of_getElem? (i := 101) rfl), rfl⟩
set_option maxRecDepth 20000 in
theorem kw_411 : Cond.code ⟨"KettleChoir", "feed", "(IIIII)I"⟩ prog_1_method_2_code 6 (some .int) ∈ kt_T := List.mem_filter.mpr ⟨kc_tables_1_2 _ (List.mem_of_getElem? (i := 98) rfl), rfl⟩
set_option maxRecDepth 20000 in
theorem kw_412 : Cond.classLink "KettleChoir" 76 "java/lang/IllegalArgumentException" ∈ kt_T := List.mem_filter.mpr ⟨kc_tables_1_3 _ (List.mem_of_getElem? (i := 39) rfl), rfl⟩
set_option maxRecDepth 20000 in
theorem kw_413 : Cond.initialized "java/lang/IllegalArgumentException" ∈ kt_T := List.mem_filter.mpr ⟨kc_tables_1_1 _ (List.mem_of_getElem? (i := 14) rfl), rfl⟩
set_option maxRecDepth 20000 in
theorem kw_414 : Cond.methodLink "KettleChoir" 83 ⟨"KettleChoir$Reader", "read", "(I)I"⟩ ∈ kt_T := List.mem_filter.mpr ⟨kc_tables_1_3 _ (List.mem_of_getElem? (i := 105) rfl), rfl⟩
set_option maxRecDepth 20000 in
theorem kw_415 : Cond.instanceMethod ⟨"KettleChoir$Reader", "read", "(I)I"⟩ ∈ kt_T := List.mem_filter.mpr ⟨kc_tables_1_3 _ (List.mem_of_getElem? (i := 106) rfl), rfl⟩
set_option maxRecDepth 20000 in
theorem kw_416 : Cond.selects "KettleChoir$Reader" ⟨"KettleChoir$Reader", "read", "(I)I"⟩ ⟨"KettleChoir$Reader", "read", "(I)I"⟩ ∈ kt_T := List.mem_filter.mpr ⟨kc_tables_1_3 _ (List.mem_of_getElem? (i := 107) rfl), rfl⟩
set_option maxRecDepth 20000 in
theorem kw_417 : Cond.fieldLink "KettleChoir" 87 "KettleChoir$Reader" "draft" "LKettleChoir$Kitchen;" ∈ kt_T := List.mem_filter.mpr ⟨kc_tables_1_1 _ (List.mem_of_getElem? (i := 143) rfl), rfl⟩
set_option maxRecDepth 20000 in
theorem kw_418 : Cond.methodLink "KettleChoir" 90 ⟨"KettleChoir$Kitchen", "take", "(LKettleChoir$Kitchen;)V"⟩ ∈ kt_T := List.mem_filter.mpr ⟨kc_tables_1_4 _ (List.mem_of_getElem? (i := 35) rfl), rfl⟩
set_option maxRecDepth 20000 in
theorem kw_419 : Cond.instanceMethod ⟨"KettleChoir$Kitchen", "take", "(LKettleChoir$Kitchen;)V"⟩ ∈ kt_T := List.mem_filter.mpr ⟨kc_tables_1_4 _ (List.mem_of_getElem? (i := 36) rfl), rfl⟩
set_option maxRecDepth 20000 in
theorem kw_420 : Cond.selects "KettleChoir$Kitchen" ⟨"KettleChoir$Kitchen", "take", "(LKettleChoir$Kitchen;)V"⟩ ⟨"KettleChoir$Kitchen", "take", "(LKettleChoir$Kitchen;)V"⟩ ∈ kt_T := List.mem_filter.mpr ⟨kc_tables_1_4 _ (List.mem_of_getElem? (i := 37) rfl), rfl⟩
set_option maxRecDepth 20000 in
theorem kw_421 : Cond.methodLink "KettleChoir" 94 ⟨"KettleChoir$Kitchen", "open", "([I)V"⟩ ∈ kt_T := List.mem_filter.mpr ⟨kc_tables_1_4 _ (List.mem_of_getElem? (i := 45) rfl), rfl⟩
set_option maxRecDepth 20000 in
theorem kw_422 : Cond.instanceMethod ⟨"KettleChoir$Kitchen", "open", "([I)V"⟩ ∈ kt_T := List.mem_filter.mpr ⟨kc_tables_1_4 _ (List.mem_of_getElem? (i := 46) rfl), rfl⟩
set_option maxRecDepth 20000 in
theorem kw_423 : Cond.selects "KettleChoir$Kitchen" ⟨"KettleChoir$Kitchen", "open", "([I)V"⟩ ⟨"KettleChoir$Kitchen", "open", "([I)V"⟩ ∈ kt_T := List.mem_filter.mpr ⟨kc_tables_1_4 _ (List.mem_of_getElem? (i := 47) rfl), rfl⟩
set_option maxRecDepth 20000 in
theorem kw_424 : Cond.methodLink "KettleChoir" 98 ⟨"KettleChoir$Acts", "clear", "()V"⟩ ∈ kt_T := List.mem_filter.mpr ⟨kc_tables_1_4 _ (List.mem_of_getElem? (i := 52) rfl), rfl⟩
set_option maxRecDepth 20000 in
theorem kw_425 : Cond.instanceMethod ⟨"KettleChoir$Acts", "clear", "()V"⟩ ∈ kt_T := List.mem_filter.mpr ⟨kc_tables_1_4 _ (List.mem_of_getElem? (i := 53) rfl), rfl⟩
set_option maxRecDepth 20000 in
theorem kw_426 : Cond.selects "KettleChoir$Acts" ⟨"KettleChoir$Acts", "clear", "()V"⟩ ⟨"KettleChoir$Acts", "clear", "()V"⟩ ∈ kt_T := List.mem_filter.mpr ⟨kc_tables_1_4 _ (List.mem_of_getElem? (i := 54) rfl), rfl⟩
set_option maxRecDepth 20000 in
theorem kw_427 : Cond.methodLink "KettleChoir" 101 ⟨"KettleChoir$Heard", "clear", "()V"⟩ ∈ kt_T := List.mem_filter.mpr ⟨kc_tables_1_2 _ (List.mem_of_getElem? (i := 218) rfl), rfl⟩
set_option maxRecDepth 20000 in
theorem kw_428 : Cond.instanceMethod ⟨"KettleChoir$Heard", "clear", "()V"⟩ ∈ kt_T := List.mem_filter.mpr ⟨kc_tables_1_2 _ (List.mem_of_getElem? (i := 219) rfl), rfl⟩
set_option maxRecDepth 20000 in
theorem kw_429 : Cond.selects "KettleChoir$Heard" ⟨"KettleChoir$Heard", "clear", "()V"⟩ ⟨"KettleChoir$Heard", "clear", "()V"⟩ ∈ kt_T := List.mem_filter.mpr ⟨kc_tables_1_2 _ (List.mem_of_getElem? (i := 220) rfl), rfl⟩
set_option maxRecDepth 20000 in
theorem kw_430 : Cond.fieldLink "KettleChoir" 102 "KettleChoir" "hasImage" "Z" ∈ kt_T := List.mem_filter.mpr ⟨kc_tables_1_2 _ (List.mem_of_getElem? (i := 69) rfl), rfl⟩
set_option maxRecDepth 20000 in
theorem kw_431 : Cond.methodLink "KettleChoir" 106 ⟨"KettleChoir", "changed", "()V"⟩ ∈ kt_T := List.mem_filter.mpr ⟨kc_tables_1_2 _ (List.mem_of_getElem? (i := 122) rfl), rfl⟩
set_option maxRecDepth 20000 in
theorem kw_432 : Cond.instanceMethod ⟨"KettleChoir", "changed", "()V"⟩ ∈ kt_T := List.mem_filter.mpr ⟨kc_tables_1_2 _ (List.mem_of_getElem? (i := 124) rfl), rfl⟩
set_option maxRecDepth 20000 in
theorem kw_433 : Cond.selects "KettleChoir" ⟨"KettleChoir", "changed", "()V"⟩ ⟨"KettleChoir", "changed", "()V"⟩ ∈ kt_T := List.mem_filter.mpr ⟨kc_lw_privs_1 (⟨"KettleChoir", "changed", "()V"⟩, 12) (List.mem_of_getElem? (i := 1) rfl), rfl⟩
set_option maxRecDepth 20000 in
theorem kw_434 : Cond.code ⟨"KettleChoir", "kitchen", "(I)I"⟩ prog_1_method_3_code 3 (some .int) ∈ kt_T := List.mem_filter.mpr ⟨kc_tables_1_3 _ (List.mem_of_getElem? (i := 38) rfl), rfl⟩
set_option maxRecDepth 20000 in
theorem kw_435 : Cond.fieldLink "KettleChoir" 109 "KettleChoir$Reader" "faultPlace" "I" ∈ kt_T := List.mem_filter.mpr ⟨kc_tables_1_1 _ (List.mem_of_getElem? (i := 147) rfl), rfl⟩
set_option maxRecDepth 20000 in
theorem kw_436 : Cond.code ⟨"KettleChoir", "fault", "()I"⟩ prog_1_method_4_code 1 (some .int) ∈ kt_T := List.mem_filter.mpr ⟨kc_tables_1_2 _ (List.mem_of_getElem? (i := 106) rfl), rfl⟩
set_option maxRecDepth 20000 in
theorem kw_437 : Cond.fieldLink "KettleChoir" 112 "KettleChoir$Kitchen" "kettles" "I" ∈ kt_T := List.mem_filter.mpr ⟨kc_tables_1_1 _ (List.mem_of_getElem? (i := 98) rfl), rfl⟩
set_option maxRecDepth 20000 in
theorem kw_438 : Cond.fieldLink "KettleChoir" 115 "KettleChoir$Kitchen" "stoves" "I" ∈ kt_T := List.mem_filter.mpr ⟨kc_tables_1_1 _ (List.mem_of_getElem? (i := 101) rfl), rfl⟩
set_option maxRecDepth 20000 in
theorem kw_439 : Cond.fieldLink "KettleChoir" 118 "KettleChoir$Kitchen" "dishes" "I" ∈ kt_T := List.mem_filter.mpr ⟨kc_tables_1_1 _ (List.mem_of_getElem? (i := 104) rfl), rfl⟩
set_option maxRecDepth 20000 in
theorem kw_440 : Cond.methodLink "KettleChoir" 121 ⟨"KettleChoir", "singing", "()I"⟩ ∈ kt_T := List.mem_filter.mpr ⟨kc_tables_1_2 _ (List.mem_of_getElem? (i := 197) rfl), rfl⟩
set_option maxRecDepth 20000 in
theorem kw_441 : Cond.instanceMethod ⟨"KettleChoir", "singing", "()I"⟩ ∈ kt_T := List.mem_filter.mpr ⟨kc_tables_1_2 _ (List.mem_of_getElem? (i := 199) rfl), rfl⟩
set_option maxRecDepth 20000 in
theorem kw_442 : Cond.selects "KettleChoir" ⟨"KettleChoir", "singing", "()I"⟩ ⟨"KettleChoir", "singing", "()I"⟩ ∈ kt_T := List.mem_filter.mpr ⟨kc_lw_privs_1 (⟨"KettleChoir", "singing", "()I"⟩, 12) (List.mem_of_getElem? (i := 8) rfl), rfl⟩
set_option maxRecDepth 20000 in
theorem kw_443 : Cond.methodLink "KettleChoir" 125 ⟨"KettleChoir", "readyDishes", "([I)I"⟩ ∈ kt_T := List.mem_filter.mpr ⟨kc_tables_1_4 _ (List.mem_of_getElem? (i := 64) rfl), rfl⟩
set_option maxRecDepth 20000 in
theorem kw_444 : Cond.instanceMethod ⟨"KettleChoir", "readyDishes", "([I)I"⟩ ∈ kt_T := List.mem_filter.mpr ⟨kc_tables_1_4 _ (List.mem_of_getElem? (i := 66) rfl), rfl⟩
set_option maxRecDepth 20000 in
theorem kw_445 : Cond.selects "KettleChoir" ⟨"KettleChoir", "readyDishes", "([I)I"⟩ ⟨"KettleChoir", "readyDishes", "([I)I"⟩ ∈ kt_T := List.mem_filter.mpr ⟨kc_lw_privs_3 (⟨"KettleChoir", "readyDishes", "([I)I"⟩, 12) (List.mem_of_getElem? (i := 2) rfl), rfl⟩
set_option maxRecDepth 20000 in
theorem kw_446 : Cond.methodLink "KettleChoir" 129 ⟨"KettleChoir", "lids", "()I"⟩ ∈ kt_T := List.mem_filter.mpr ⟨kc_tables_1_4 _ (List.mem_of_getElem? (i := 68) rfl), rfl⟩
set_option maxRecDepth 20000 in
theorem kw_447 : Cond.instanceMethod ⟨"KettleChoir", "lids", "()I"⟩ ∈ kt_T := List.mem_filter.mpr ⟨kc_tables_1_4 _ (List.mem_of_getElem? (i := 70) rfl), rfl⟩
set_option maxRecDepth 20000 in
theorem kw_448 : Cond.selects "KettleChoir" ⟨"KettleChoir", "lids", "()I"⟩ ⟨"KettleChoir", "lids", "()I"⟩ ∈ kt_T := List.mem_filter.mpr ⟨kc_lw_privs_3 (⟨"KettleChoir", "lids", "()I"⟩, 12) (List.mem_of_getElem? (i := 3) rfl), rfl⟩
set_option maxRecDepth 20000 in
theorem kw_449 : Cond.methodLink "KettleChoir" 132 ⟨"KettleChoir", "thirds", "()I"⟩ ∈ kt_T := List.mem_filter.mpr ⟨kc_tables_1_4 _ (List.mem_of_getElem? (i := 72) rfl), rfl⟩
set_option maxRecDepth 20000 in
theorem kw_450 : Cond.instanceMethod ⟨"KettleChoir", "thirds", "()I"⟩ ∈ kt_T := List.mem_filter.mpr ⟨kc_tables_1_4 _ (List.mem_of_getElem? (i := 74) rfl), rfl⟩
set_option maxRecDepth 20000 in
theorem kw_451 : Cond.selects "KettleChoir" ⟨"KettleChoir", "thirds", "()I"⟩ ⟨"KettleChoir", "thirds", "()I"⟩ ∈ kt_T := List.mem_filter.mpr ⟨kc_lw_privs_3 (⟨"KettleChoir", "thirds", "()I"⟩, 12) (List.mem_of_getElem? (i := 4) rfl), rfl⟩
set_option maxRecDepth 20000 in
theorem kw_452 : Cond.fieldLink "KettleChoir" 135 "KettleChoir$Acts" "many" "I" ∈ kt_T := List.mem_filter.mpr ⟨kc_tables_1_1 _ (List.mem_of_getElem? (i := 189) rfl), rfl⟩
set_option maxRecDepth 20000 in
theorem kw_453 : Cond.fieldLink "KettleChoir" 138 "KettleChoir$Heard" "many" "I" ∈ kt_T := List.mem_filter.mpr ⟨kc_tables_1_1 _ (List.mem_of_getElem? (i := 209) rfl), rfl⟩
set_option maxRecDepth 20000 in
theorem kw_454 : Cond.classLink "KettleChoir" 139 "java/util/NoSuchElementException" ∈ kt_T := List.mem_filter.mpr ⟨kc_tables_1_4 _ (List.mem_of_getElem? (i := 83) rfl), rfl⟩
set_option maxRecDepth 20000 in
theorem kw_455 : Cond.initialized "java/util/NoSuchElementException" ∈ kt_T := List.mem_filter.mpr ⟨kc_tables_1_1 _ (List.mem_of_getElem? (i := 22) rfl), rfl⟩
set_option maxRecDepth 20000 in
theorem kw_456 : Cond.code ⟨"KettleChoir", "count", "(I)I"⟩ prog_1_method_5_code 2 (some .int) ∈ kt_T := List.mem_filter.mpr ⟨kc_tables_1_4 _ (List.mem_of_getElem? (i := 63) rfl), rfl⟩
set_option maxRecDepth 20000 in
theorem kw_457 : Cond.methodLink "KettleChoir" 144 ⟨"KettleChoir", "needKettle", "(I)V"⟩ ∈ kt_T := List.mem_filter.mpr ⟨kc_tables_1_4 _ (List.mem_of_getElem? (i := 106) rfl), rfl⟩
set_option maxRecDepth 20000 in
theorem kw_458 : Cond.instanceMethod ⟨"KettleChoir", "needKettle", "(I)V"⟩ ∈ kt_T := List.mem_filter.mpr ⟨kc_tables_1_4 _ (List.mem_of_getElem? (i := 108) rfl), rfl⟩
set_option maxRecDepth 20000 in
theorem kw_459 : Cond.selects "KettleChoir" ⟨"KettleChoir", "needKettle", "(I)V"⟩ ⟨"KettleChoir", "needKettle", "(I)V"⟩ ∈ kt_T := List.mem_filter.mpr ⟨kc_lw_privs_3 (⟨"KettleChoir", "needKettle", "(I)V"⟩, 12) (List.mem_of_getElem? (i := 6) rfl), rfl⟩
set_option maxRecDepth 20000 in
theorem kw_460 : Cond.fieldLink "KettleChoir" 147 "KettleChoir$Kitchen" "kind" "[I" ∈ kt_T := List.mem_filter.mpr ⟨kc_tables_1_1 _ (List.mem_of_getElem? (i := 66) rfl), rfl⟩
set_option maxRecDepth 20000 in
theorem kw_461 : Cond.fieldLink "KettleChoir" 150 "KettleChoir$Kitchen" "spout" "[I" ∈ kt_T := List.mem_filter.mpr ⟨kc_tables_1_1 _ (List.mem_of_getElem? (i := 69) rfl), rfl⟩
set_option maxRecDepth 20000 in
theorem kw_462 : Cond.fieldLink "KettleChoir" 153 "KettleChoir$Kitchen" "size" "[I" ∈ kt_T := List.mem_filter.mpr ⟨kc_tables_1_1 _ (List.mem_of_getElem? (i := 73) rfl), rfl⟩
set_option maxRecDepth 20000 in
theorem kw_463 : Cond.code ⟨"KettleChoir", "kettle", "(II)I"⟩ prog_1_method_6_code 3 (some .int) ∈ kt_T := List.mem_filter.mpr ⟨kc_tables_1_4 _ (List.mem_of_getElem? (i := 105) rfl), rfl⟩
set_option maxRecDepth 20000 in
theorem kw_464 : Cond.methodLink "KettleChoir" 158 ⟨"KettleChoir", "needStove", "(I)V"⟩ ∈ kt_T := List.mem_filter.mpr ⟨kc_tables_1_4 _ (List.mem_of_getElem? (i := 119) rfl), rfl⟩
set_option maxRecDepth 20000 in
theorem kw_465 : Cond.instanceMethod ⟨"KettleChoir", "needStove", "(I)V"⟩ ∈ kt_T := List.mem_filter.mpr ⟨kc_tables_1_4 _ (List.mem_of_getElem? (i := 121) rfl), rfl⟩
set_option maxRecDepth 20000 in
theorem kw_466 : Cond.selects "KettleChoir" ⟨"KettleChoir", "needStove", "(I)V"⟩ ⟨"KettleChoir", "needStove", "(I)V"⟩ ∈ kt_T := List.mem_filter.mpr ⟨kc_lw_privs_3 (⟨"KettleChoir", "needStove", "(I)V"⟩, 12) (List.mem_of_getElem? (i := 7) rfl), rfl⟩
set_option maxRecDepth 20000 in
theorem kw_467 : Cond.fieldLink "KettleChoir" 161 "KettleChoir$Kitchen" "power" "[I" ∈ kt_T := List.mem_filter.mpr ⟨kc_tables_1_1 _ (List.mem_of_getElem? (i := 80) rfl), rfl⟩
set_option maxRecDepth 20000 in
theorem kw_468 : Cond.methodLink "KettleChoir" 164 ⟨"KettleChoir$Kitchen", "kettleOn", "([II)I"⟩ ∈ kt_T := List.mem_filter.mpr ⟨kc_tables_1_4 _ (List.mem_of_getElem? (i := 124) rfl), rfl⟩
set_option maxRecDepth 20000 in
theorem kw_469 : Cond.instanceMethod ⟨"KettleChoir$Kitchen", "kettleOn", "([II)I"⟩ ∈ kt_T := List.mem_filter.mpr ⟨kc_tables_1_4 _ (List.mem_of_getElem? (i := 125) rfl), rfl⟩
set_option maxRecDepth 20000 in
theorem kw_470 : Cond.selects "KettleChoir$Kitchen" ⟨"KettleChoir$Kitchen", "kettleOn", "([II)I"⟩ ⟨"KettleChoir$Kitchen", "kettleOn", "([II)I"⟩ ∈ kt_T := List.mem_filter.mpr ⟨kc_tables_1_4 _ (List.mem_of_getElem? (i := 126) rfl), rfl⟩
set_option maxRecDepth 20000 in
theorem kw_471 : Cond.code ⟨"KettleChoir", "stove", "(II)I"⟩ prog_1_method_7_code 3 (some .int) ∈ kt_T := List.mem_filter.mpr ⟨kc_tables_1_4 _ (List.mem_of_getElem? (i := 118) rfl), rfl⟩
set_option maxRecDepth 20000 in
theorem kw_472 : Cond.methodLink "KettleChoir" 170 ⟨"KettleChoir", "needDish", "(I)V"⟩ ∈ kt_T := List.mem_filter.mpr ⟨kc_tables_1_4 _ (List.mem_of_getElem? (i := 136) rfl), rfl⟩
set_option maxRecDepth 20000 in
theorem kw_473 : Cond.instanceMethod ⟨"KettleChoir", "needDish", "(I)V"⟩ ∈ kt_T := List.mem_filter.mpr ⟨kc_tables_1_4 _ (List.mem_of_getElem? (i := 138) rfl), rfl⟩
set_option maxRecDepth 20000 in
theorem kw_474 : Cond.selects "KettleChoir" ⟨"KettleChoir", "needDish", "(I)V"⟩ ⟨"KettleChoir", "needDish", "(I)V"⟩ ∈ kt_T := List.mem_filter.mpr ⟨kc_lw_privs_3 (⟨"KettleChoir", "needDish", "(I)V"⟩, 12) (List.mem_of_getElem? (i := 8) rfl), rfl⟩
set_option maxRecDepth 20000 in
theorem kw_475 : Cond.fieldLink "KettleChoir" 173 "KettleChoir$Kitchen" "steps" "[I" ∈ kt_T := List.mem_filter.mpr ⟨kc_tables_1_1 _ (List.mem_of_getElem? (i := 85) rfl), rfl⟩
set_option maxRecDepth 20000 in
theorem kw_476 : Cond.fieldLink "KettleChoir" 178 "KettleChoir$Kitchen" "step" "[I" ∈ kt_T := List.mem_filter.mpr ⟨kc_tables_1_1 _ (List.mem_of_getElem? (i := 88) rfl), rfl⟩
set_option maxRecDepth 20000 in
theorem kw_477 : Cond.code ⟨"KettleChoir", "dish", "(II)I"⟩ prog_1_method_8_code 3 (some .int) ∈ kt_T := List.mem_filter.mpr ⟨kc_tables_1_4 _ (List.mem_of_getElem? (i := 135) rfl), rfl⟩
set_option maxRecDepth 20000 in
theorem kw_478 : Cond.methodLink "KettleChoir" 181 ⟨"KettleChoir", "beginAct", "()V"⟩ ∈ kt_T := List.mem_filter.mpr ⟨kc_tables_1_2 _ (List.mem_of_getElem? (i := 111) rfl), rfl⟩
set_option maxRecDepth 20000 in
theorem kw_479 : Cond.instanceMethod ⟨"KettleChoir", "beginAct", "()V"⟩ ∈ kt_T := List.mem_filter.mpr ⟨kc_tables_1_2 _ (List.mem_of_getElem? (i := 113) rfl), rfl⟩
set_option maxRecDepth 20000 in
theorem kw_480 : Cond.selects "KettleChoir" ⟨"KettleChoir", "beginAct", "()V"⟩ ⟨"KettleChoir", "beginAct", "()V"⟩ ∈ kt_T := List.mem_filter.mpr ⟨kc_lw_privs_1 (⟨"KettleChoir", "beginAct", "()V"⟩, 12) (List.mem_of_getElem? (i := 0) rfl), rfl⟩
set_option maxRecDepth 20000 in
theorem kw_481 : Cond.methodLink "KettleChoir" 184 ⟨"KettleChoir$Kitchen", "pass", "([I)V"⟩ ∈ kt_T := List.mem_filter.mpr ⟨kc_tables_1_2 _ (List.mem_of_getElem? (i := 126) rfl), rfl⟩
set_option maxRecDepth 20000 in
theorem kw_482 : Cond.code ⟨"KettleChoir", "minutes", "(I)I"⟩ prog_1_method_9_code 3 (some .int) ∈ kt_T := List.mem_filter.mpr ⟨kc_tables_1_2 _ (List.mem_of_getElem? (i := 110) rfl), rfl⟩
set_option maxRecDepth 20000 in
theorem kw_483 : Cond.code ⟨"KettleChoir", "put", "(II)Z"⟩ prog_1_method_10_code 3 (some .boolean) ∈ kt_T := List.mem_filter.mpr ⟨kc_tables_1_4 _ (List.mem_of_getElem? (i := 148) rfl), rfl⟩
set_option maxRecDepth 20000 in
theorem kw_484 : Cond.code ⟨"KettleChoir", "lift", "(I)I"⟩ prog_1_method_11_code 3 (some .int) ∈ kt_T := List.mem_filter.mpr ⟨kc_tables_1_4 _ (List.mem_of_getElem? (i := 155) rfl), rfl⟩
set_option maxRecDepth 20000 in
theorem kw_485 : Cond.code ⟨"KettleChoir", "pour", "(II)I"⟩ prog_1_method_12_code 4 (some .int) ∈ kt_T := List.mem_filter.mpr ⟨kc_tables_1_4 _ (List.mem_of_getElem? (i := 162) rfl), rfl⟩
set_option maxRecDepth 20000 in
theorem kw_486 : Cond.code ⟨"KettleChoir", "scrape", "(I)I"⟩ prog_1_method_13_code 3 (some .int) ∈ kt_T := List.mem_filter.mpr ⟨kc_tables_1_4 _ (List.mem_of_getElem? (i := 169) rfl), rfl⟩
set_option maxRecDepth 20000 in
theorem kw_487 : Cond.methodLink "KettleChoir" 187 ⟨"KettleChoir$Acts", "pop", "([I)V"⟩ ∈ kt_T := List.mem_filter.mpr ⟨kc_tables_1_2 _ (List.mem_of_getElem? (i := 189) rfl), rfl⟩
set_option maxRecDepth 20000 in
theorem kw_488 : Cond.instanceMethod ⟨"KettleChoir$Acts", "pop", "([I)V"⟩ ∈ kt_T := List.mem_filter.mpr ⟨kc_tables_1_2 _ (List.mem_of_getElem? (i := 190) rfl), rfl⟩
set_option maxRecDepth 20000 in
theorem kw_489 : Cond.selects "KettleChoir$Acts" ⟨"KettleChoir$Acts", "pop", "([I)V"⟩ ⟨"KettleChoir$Acts", "pop", "([I)V"⟩ ∈ kt_T := List.mem_filter.mpr ⟨kc_tables_1_2 _ (List.mem_of_getElem? (i := 191) rfl), rfl⟩
set_option maxRecDepth 20000 in
theorem kw_490 : Cond.code ⟨"KettleChoir", "undo", "()I"⟩ prog_1_method_14_code 1 (some .int) ∈ kt_T := List.mem_filter.mpr ⟨kc_tables_1_2 _ (List.mem_of_getElem? (i := 188) rfl), rfl⟩
set_option maxRecDepth 20000 in
theorem kw_491 : Cond.methodLink "KettleChoir" 190 ⟨"KettleChoir", "needFarMinutes", "(I)V"⟩ ∈ kt_T := List.mem_filter.mpr ⟨kc_tables_1_4 _ (List.mem_of_getElem? (i := 177) rfl), rfl⟩
set_option maxRecDepth 20000 in
theorem kw_492 : Cond.instanceMethod ⟨"KettleChoir", "needFarMinutes", "(I)V"⟩ ∈ kt_T := List.mem_filter.mpr ⟨kc_tables_1_4 _ (List.mem_of_getElem? (i := 179) rfl), rfl⟩
set_option maxRecDepth 20000 in
theorem kw_493 : Cond.selects "KettleChoir" ⟨"KettleChoir", "needFarMinutes", "(I)V"⟩ ⟨"KettleChoir", "needFarMinutes", "(I)V"⟩ ∈ kt_T := List.mem_filter.mpr ⟨kc_lw_privs_3 (⟨"KettleChoir", "needFarMinutes", "(I)V"⟩, 12) (List.mem_of_getElem? (i := 9) rfl), rfl⟩
set_option maxRecDepth 20000 in
theorem kw_494 : Cond.methodLink "KettleChoir" 193 ⟨"KettleChoir", "beginTrial", "()V"⟩ ∈ kt_T := List.mem_filter.mpr ⟨kc_tables_1_2 _ (List.mem_of_getElem? (i := 201) rfl), rfl⟩
set_option maxRecDepth 20000 in
theorem kw_495 : Cond.instanceMethod ⟨"KettleChoir", "beginTrial", "()V"⟩ ∈ kt_T := List.mem_filter.mpr ⟨kc_tables_1_2 _ (List.mem_of_getElem? (i := 203) rfl), rfl⟩
set_option maxRecDepth 20000 in
theorem kw_496 : Cond.selects "KettleChoir" ⟨"KettleChoir", "beginTrial", "()V"⟩ ⟨"KettleChoir", "beginTrial", "()V"⟩ ∈ kt_T := List.mem_filter.mpr ⟨kc_lw_privs_1 (⟨"KettleChoir", "beginTrial", "()V"⟩, 12) (List.mem_of_getElem? (i := 9) rfl), rfl⟩
set_option maxRecDepth 20000 in
theorem kw_497 : Cond.code ⟨"KettleChoir", "then", "(II)I"⟩ prog_1_method_15_code 4 (some .int) ∈ kt_T := List.mem_filter.mpr ⟨kc_tables_1_4 _ (List.mem_of_getElem? (i := 176) rfl), rfl⟩
set_option maxRecDepth 20000 in
theorem kw_498 : Cond.code ⟨"KettleChoir", "sung", "(I)I"⟩ prog_1_method_16_code 3 (some .int) ∈ kt_T := List.mem_filter.mpr ⟨kc_tables_1_4 _ (List.mem_of_getElem? (i := 188) rfl), rfl⟩
set_option maxRecDepth 20000 in
theorem kw_499 : Cond.code ⟨"KettleChoir", "done", "(I)I"⟩ prog_1_method_17_code 3 (some .int) ∈ kt_T := List.mem_filter.mpr ⟨kc_tables_1_4 _ (List.mem_of_getElem? (i := 195) rfl), rfl⟩
set_option maxRecDepth 20000 in
theorem kw_500 : Cond.fieldLink "KettleChoir" 198 "KettleChoir$Kitchen" "singers" "I" ∈ kt_T := List.mem_filter.mpr ⟨kc_tables_1_1 _ (List.mem_of_getElem? (i := 109) rfl), rfl⟩
set_option maxRecDepth 20000 in
theorem kw_501 : Cond.code ⟨"KettleChoir", "fugue", "(I)I"⟩ prog_1_method_18_code 3 (some .int) ∈ kt_T := List.mem_filter.mpr ⟨kc_tables_1_4 _ (List.mem_of_getElem? (i := 202) rfl), rfl⟩
set_option maxRecDepth 20000 in
theorem kw_502 : Cond.code ⟨"KettleChoir", "quiet", "()I"⟩ prog_1_method_19_code 3 (some .int) ∈ kt_T := List.mem_filter.mpr ⟨kc_tables_1_2 _ (List.mem_of_getElem? (i := 196) rfl), rfl⟩
set_option maxRecDepth 20000 in
theorem kw_503 : Cond.code ⟨"KettleChoir", "loudest", "(I)I"⟩ prog_1_method_20_code 5 (some .int) ∈ kt_T := List.mem_filter.mpr ⟨kc_tables_1_4 _ (List.mem_of_getElem? (i := 210) rfl), rfl⟩
set_option maxRecDepth 20000 in
theorem kw_504 : Cond.code ⟨"KettleChoir", "dry", "(I)I"⟩ prog_1_method_21_code 3 (some .int) ∈ kt_T := List.mem_filter.mpr ⟨kc_tables_1_4 _ (List.mem_of_getElem? (i := 218) rfl), rfl⟩
set_option maxRecDepth 20000 in
theorem kw_505 : Cond.methodLink "KettleChoir" 203 ⟨"KettleChoir$Planner", "plan", "(LKettleChoir$Kitchen;[II)V"⟩ ∈ kt_T := List.mem_filter.mpr ⟨kc_tables_1_4 _ (List.mem_of_getElem? (i := 226) rfl), rfl⟩
set_option maxRecDepth 20000 in
theorem kw_506 : Cond.instanceMethod ⟨"KettleChoir$Planner", "plan", "(LKettleChoir$Kitchen;[II)V"⟩ ∈ kt_T := List.mem_filter.mpr ⟨kc_tables_1_4 _ (List.mem_of_getElem? (i := 227) rfl), rfl⟩
set_option maxRecDepth 20000 in
theorem kw_507 : Cond.selects "KettleChoir$Planner" ⟨"KettleChoir$Planner", "plan", "(LKettleChoir$Kitchen;[II)V"⟩ ⟨"KettleChoir$Planner", "plan", "(LKettleChoir$Kitchen;[II)V"⟩ ∈ kt_T := List.mem_filter.mpr ⟨kc_tables_1_4 _ (List.mem_of_getElem? (i := 228) rfl), rfl⟩
set_option maxRecDepth 20000 in
theorem kw_508 : Cond.fieldLink "KettleChoir" 207 "KettleChoir$Planner" "when" "I" ∈ kt_T := List.mem_filter.mpr ⟨kc_tables_1_2 _ (List.mem_of_getElem? (i := 28) rfl), rfl⟩
set_option maxRecDepth 20000 in
theorem kw_509 : Cond.fieldLink "KettleChoir" 210 "KettleChoir$Planner" "best" "[I" ∈ kt_T := List.mem_filter.mpr ⟨kc_tables_1_2 _ (List.mem_of_getElem? (i := 26) rfl), rfl⟩
set_option maxRecDepth 20000 in
theorem kw_510 : Cond.code ⟨"KettleChoir", "soonest", "(II)I"⟩ prog_1_method_22_code 3 (some .int) ∈ kt_T := List.mem_filter.mpr ⟨kc_tables_1_4 _ (List.mem_of_getElem? (i := 225) rfl), rfl⟩
set_option maxRecDepth 20000 in
theorem kw_511 : Cond.methodLink "KettleChoir" 215 ⟨"KettleChoir$Tuner", "nearestFill", "(LKettleChoir$Kitchen;[III)I"⟩ ∈ kt_T := List.mem_filter.mpr ⟨kc_tables_1_5 _ (List.mem_of_getElem? (i := 22) rfl), rfl⟩
set_option maxRecDepth 20000 in
theorem kw_512 : Cond.code ⟨"KettleChoir", "tuned", "(II)I"⟩ prog_1_method_23_code 3 (some .int) ∈ kt_T := List.mem_filter.mpr ⟨kc_tables_1_5 _ (List.mem_of_getElem? (i := 20) rfl), rfl⟩
set_option maxRecDepth 20000 in
theorem kw_513 : Cond.methodLink "KettleChoir" 219 ⟨"KettleChoir$Tuner", "leastCups", "(LKettleChoir$Kitchen;[II)I"⟩ ∈ kt_T := List.mem_filter.mpr ⟨kc_tables_1_5 _ (List.mem_of_getElem? (i := 36) rfl), rfl⟩
set_option maxRecDepth 20000 in
theorem kw_514 : Cond.instanceMethod ⟨"KettleChoir$Tuner", "leastCups", "(LKettleChoir$Kitchen;[II)I"⟩ ∈ kt_T := List.mem_filter.mpr ⟨kc_tables_1_5 _ (List.mem_of_getElem? (i := 37) rfl), rfl⟩
set_option maxRecDepth 20000 in
theorem kw_515 : Cond.selects "KettleChoir$Tuner" ⟨"KettleChoir$Tuner", "leastCups", "(LKettleChoir$Kitchen;[II)I"⟩ ⟨"KettleChoir$Tuner", "leastCups", "(LKettleChoir$Kitchen;[II)I"⟩ ∈ kt_T := List.mem_filter.mpr ⟨kc_tables_1_5 _ (List.mem_of_getElem? (i := 38) rfl), rfl⟩
set_option maxRecDepth 20000 in
theorem kw_516 : Cond.code ⟨"KettleChoir", "chord", "(I)I"⟩ prog_1_method_24_code 2 (some .int) ∈ kt_T := List.mem_filter.mpr ⟨kc_tables_1_5 _ (List.mem_of_getElem? (i := 35) rfl), rfl⟩
set_option maxRecDepth 20000 in
theorem kw_517 : Cond.methodLink "KettleChoir" 223 ⟨"KettleChoir$Kitchen", "warm", "([III)V"⟩ ∈ kt_T := List.mem_filter.mpr ⟨kc_tables_1_5 _ (List.mem_of_getElem? (i := 62) rfl), rfl⟩
set_option maxRecDepth 20000 in
theorem kw_518 : Cond.methodLink "KettleChoir" 227 ⟨"KettleChoir$Kitchen", "voice", "([II)V"⟩ ∈ kt_T := List.mem_filter.mpr ⟨kc_tables_1_5 _ (List.mem_of_getElem? (i := 63) rfl), rfl⟩
set_option maxRecDepth 20000 in
theorem kw_519 : Cond.code ⟨"KettleChoir", "burner", "(II)I"⟩ prog_1_method_25_code 5 (some .int) ∈ kt_T := List.mem_filter.mpr ⟨kc_tables_1_5 _ (List.mem_of_getElem? (i := 61) rfl), rfl⟩
set_option maxRecDepth 20000 in
theorem kw_520 : Cond.methodLink "KettleChoir" 233 ⟨"KettleChoir", "burn", "(II)I"⟩ ∈ kt_T := List.mem_filter.mpr ⟨kc_tables_1_5 _ (List.mem_of_getElem? (i := 72) rfl), rfl⟩
set_option maxRecDepth 20000 in
theorem kw_521 : Cond.instanceMethod ⟨"KettleChoir", "burn", "(II)I"⟩ ∈ kt_T := List.mem_filter.mpr ⟨kc_tables_1_5 _ (List.mem_of_getElem? (i := 74) rfl), rfl⟩
set_option maxRecDepth 20000 in
theorem kw_522 : Cond.selects "KettleChoir" ⟨"KettleChoir", "burn", "(II)I"⟩ ⟨"KettleChoir", "burn", "(II)I"⟩ ∈ kt_T := List.mem_filter.mpr ⟨kc_lw_privs_4 (⟨"KettleChoir", "burn", "(II)I"⟩, 12) (List.mem_of_getElem? (i := 2) rfl), rfl⟩
set_option maxRecDepth 20000 in
theorem kw_523 : Cond.methodLink "KettleChoir" 237 ⟨"java/lang/Math", "abs", "(I)I"⟩ ∈ kt_T := List.mem_filter.mpr ⟨kc_tables_1_4 _ (List.mem_of_getElem? (i := 80) rfl), rfl⟩
set_option maxRecDepth 20000 in
theorem kw_524 : Cond.code ⟨"KettleChoir", "together", "(IIII)I"⟩ prog_1_method_26_code 9 (some .int) ∈ kt_T := List.mem_filter.mpr ⟨kc_tables_1_5 _ (List.mem_of_getElem? (i := 70) rfl), rfl⟩
set_option maxRecDepth 20000 in
theorem kw_525 : Cond.methodLink "KettleChoir" 242 ⟨"KettleChoir$Heard", "add", "(II)V"⟩ ∈ kt_T := List.mem_filter.mpr ⟨kc_tables_1_2 _ (List.mem_of_getElem? (i := 210) rfl), rfl⟩
set_option maxRecDepth 20000 in
theorem kw_526 : Cond.instanceMethod ⟨"KettleChoir$Heard", "add", "(II)V"⟩ ∈ kt_T := List.mem_filter.mpr ⟨kc_tables_1_2 _ (List.mem_of_getElem? (i := 211) rfl), rfl⟩
set_option maxRecDepth 20000 in
theorem kw_527 : Cond.selects "KettleChoir$Heard" ⟨"KettleChoir$Heard", "add", "(II)V"⟩ ⟨"KettleChoir$Heard", "add", "(II)V"⟩ ∈ kt_T := List.mem_filter.mpr ⟨kc_tables_1_2 _ (List.mem_of_getElem? (i := 212) rfl), rfl⟩
set_option maxRecDepth 20000 in
theorem kw_528 : Cond.code ⟨"KettleChoir", "hear", "(II)I"⟩ prog_1_method_27_code 5 (some .int) ∈ kt_T := List.mem_filter.mpr ⟨kc_tables_1_2 _ (List.mem_of_getElem? (i := 209) rfl), rfl⟩
set_option maxRecDepth 20000 in
theorem kw_529 : Cond.methodLink "KettleChoir" 248 ⟨"KettleChoir$Ear", "fitsAsItIs", "(LKettleChoir$Kitchen;[ILKettleChoir$Heard;)Z"⟩ ∈ kt_T := List.mem_filter.mpr ⟨kc_tables_1_5 _ (List.mem_of_getElem? (i := 85) rfl), rfl⟩
set_option maxRecDepth 20000 in
theorem kw_530 : Cond.instanceMethod ⟨"KettleChoir$Ear", "fitsAsItIs", "(LKettleChoir$Kitchen;[ILKettleChoir$Heard;)Z"⟩ ∈ kt_T := List.mem_filter.mpr ⟨kc_tables_1_5 _ (List.mem_of_getElem? (i := 86) rfl), rfl⟩
set_option maxRecDepth 20000 in
theorem kw_531 : Cond.selects "KettleChoir$Ear" ⟨"KettleChoir$Ear", "fitsAsItIs", "(LKettleChoir$Kitchen;[ILKettleChoir$Heard;)Z"⟩ ⟨"KettleChoir$Ear", "fitsAsItIs", "(LKettleChoir$Kitchen;[ILKettleChoir$Heard;)Z"⟩ ∈ kt_T := List.mem_filter.mpr ⟨kc_tables_1_5 _ (List.mem_of_getElem? (i := 87) rfl), rfl⟩
set_option maxRecDepth 20000 in
theorem kw_532 : Cond.methodLink "KettleChoir" 252 ⟨"KettleChoir$Ear", "search", "(LKettleChoir$Kitchen;[ILKettleChoir$Heard;)V"⟩ ∈ kt_T := List.mem_filter.mpr ⟨kc_tables_1_5 _ (List.mem_of_getElem? (i := 95) rfl), rfl⟩
set_option maxRecDepth 20000 in
theorem kw_533 : Cond.instanceMethod ⟨"KettleChoir$Ear", "search", "(LKettleChoir$Kitchen;[ILKettleChoir$Heard;)V"⟩ ∈ kt_T := List.mem_filter.mpr ⟨kc_tables_1_5 _ (List.mem_of_getElem? (i := 96) rfl), rfl⟩
set_option maxRecDepth 20000 in
theorem kw_534 : Cond.selects "KettleChoir$Ear" ⟨"KettleChoir$Ear", "search", "(LKettleChoir$Kitchen;[ILKettleChoir$Heard;)V"⟩ ⟨"KettleChoir$Ear", "search", "(LKettleChoir$Kitchen;[ILKettleChoir$Heard;)V"⟩ ∈ kt_T := List.mem_filter.mpr ⟨kc_tables_1_5 _ (List.mem_of_getElem? (i := 97) rfl), rfl⟩
set_option maxRecDepth 20000 in
theorem kw_535 : Cond.fieldLink "KettleChoir" 256 "KettleChoir$Ear" "many" "I" ∈ kt_T := List.mem_filter.mpr ⟨kc_tables_1_1 _ (List.mem_of_getElem? (i := 230) rfl), rfl⟩
set_option maxRecDepth 20000 in
theorem kw_536 : Cond.fieldLink "KettleChoir" 257 "KettleChoir$Ear" "first" "I" ∈ kt_T := List.mem_filter.mpr ⟨kc_tables_1_1 _ (List.mem_of_getElem? (i := 232) rfl), rfl⟩
set_option maxRecDepth 20000 in
theorem kw_537 : Cond.code ⟨"KettleChoir", "chalk", "(I)I"⟩ prog_1_method_28_code 2 (some .int) ∈ kt_T := List.mem_filter.mpr ⟨kc_tables_1_5 _ (List.mem_of_getElem? (i := 83) rfl), rfl⟩
set_option maxRecDepth 20000 in
theorem kw_538 : Cond.fieldLink "KettleChoir" 262 "KettleChoir$Ear" "minute" "I" ∈ kt_T := List.mem_filter.mpr ⟨kc_tables_1_1 _ (List.mem_of_getElem? (i := 234) rfl), rfl⟩
set_option maxRecDepth 20000 in
theorem kw_539 : Cond.fieldLink "KettleChoir" 265 "KettleChoir$Ear" "choirs" "I" ∈ kt_T := List.mem_filter.mpr ⟨kc_tables_1_1 _ (List.mem_of_getElem? (i := 236) rfl), rfl⟩
set_option maxRecDepth 20000 in
theorem kw_540 : Cond.code ⟨"KettleChoir", "listen", "(I)I"⟩ prog_1_method_29_code 2 (some .int) ∈ kt_T := List.mem_filter.mpr ⟨kc_tables_1_5 _ (List.mem_of_getElem? (i := 114) rfl), rfl⟩
set_option maxRecDepth 20000 in
theorem kw_541 : Cond.code ⟨"KettleChoir", "forget", "()V"⟩ prog_1_method_30_code 1 none ∈ kt_T := List.mem_filter.mpr ⟨kc_tables_1_2 _ (List.mem_of_getElem? (i := 217) rfl), rfl⟩
set_option maxRecDepth 20000 in
theorem kw_542 : Cond.methodLink "KettleChoir" 272 ⟨"KettleChoir", "isBest", "(IIII)Z"⟩ ∈ kt_T := List.mem_filter.mpr ⟨kc_tables_1_5 _ (List.mem_of_getElem? (i := 125) rfl), rfl⟩
set_option maxRecDepth 20000 in
theorem kw_543 : Cond.instanceMethod ⟨"KettleChoir", "isBest", "(IIII)Z"⟩ ∈ kt_T := List.mem_filter.mpr ⟨kc_tables_1_5 _ (List.mem_of_getElem? (i := 127) rfl), rfl⟩
set_option maxRecDepth 20000 in
theorem kw_544 : Cond.selects "KettleChoir" ⟨"KettleChoir", "isBest", "(IIII)Z"⟩ ⟨"KettleChoir", "isBest", "(IIII)Z"⟩ ∈ kt_T := List.mem_filter.mpr ⟨kc_lw_privs_4 (⟨"KettleChoir", "isBest", "(IIII)Z"⟩, 12) (List.mem_of_getElem? (i := 6) rfl), rfl⟩
set_option maxRecDepth 20000 in
theorem kw_545 : Cond.code ⟨"KettleChoir", "game", "(III)I"⟩ prog_1_method_31_code 10 (some .int) ∈ kt_T := List.mem_filter.mpr ⟨kc_tables_1_5 _ (List.mem_of_getElem? (i := 122) rfl), rfl⟩
set_option maxRecDepth 20000 in
theorem kw_546 : Cond.methodLink "KettleChoir" 280 ⟨"KettleChoir", "nextSeed", "(I)I"⟩ ∈ kt_T := List.mem_filter.mpr ⟨kc_tables_1_5 _ (List.mem_of_getElem? (i := 142) rfl), rfl⟩
set_option maxRecDepth 20000 in
theorem kw_547 : Cond.instanceMethod ⟨"KettleChoir", "nextSeed", "(I)I"⟩ ∈ kt_T := List.mem_filter.mpr ⟨kc_tables_1_5 _ (List.mem_of_getElem? (i := 144) rfl), rfl⟩
set_option maxRecDepth 20000 in
theorem kw_548 : Cond.selects "KettleChoir" ⟨"KettleChoir", "nextSeed", "(I)I"⟩ ⟨"KettleChoir", "nextSeed", "(I)I"⟩ ∈ kt_T := List.mem_filter.mpr ⟨kc_lw_privs_4 (⟨"KettleChoir", "nextSeed", "(I)I"⟩, 12) (List.mem_of_getElem? (i := 8) rfl), rfl⟩
set_option maxRecDepth 20000 in
theorem kw_549 : Cond.methodLink "KettleChoir" 283 ⟨"KettleChoir", "draw", "(II)I"⟩ ∈ kt_T := List.mem_filter.mpr ⟨kc_tables_1_5 _ (List.mem_of_getElem? (i := 147) rfl), rfl⟩
set_option maxRecDepth 20000 in
theorem kw_550 : Cond.instanceMethod ⟨"KettleChoir", "draw", "(II)I"⟩ ∈ kt_T := List.mem_filter.mpr ⟨kc_tables_1_5 _ (List.mem_of_getElem? (i := 149) rfl), rfl⟩
set_option maxRecDepth 20000 in
theorem kw_551 : Cond.selects "KettleChoir" ⟨"KettleChoir", "draw", "(II)I"⟩ ⟨"KettleChoir", "draw", "(II)I"⟩ ∈ kt_T := List.mem_filter.mpr ⟨kc_lw_privs_4 (⟨"KettleChoir", "draw", "(II)I"⟩, 12) (List.mem_of_getElem? (i := 9) rfl), rfl⟩
set_option maxRecDepth 20000 in
theorem kw_552 : Cond.methodLink "KettleChoir" 286 ⟨"KettleChoir", "meddle", "(II)V"⟩ ∈ kt_T := List.mem_filter.mpr ⟨kc_tables_1_5 _ (List.mem_of_getElem? (i := 151) rfl), rfl⟩
set_option maxRecDepth 20000 in
theorem kw_553 : Cond.instanceMethod ⟨"KettleChoir", "meddle", "(II)V"⟩ ∈ kt_T := List.mem_filter.mpr ⟨kc_tables_1_5 _ (List.mem_of_getElem? (i := 153) rfl), rfl⟩
set_option maxRecDepth 20000 in
theorem kw_554 : Cond.selects "KettleChoir" ⟨"KettleChoir", "meddle", "(II)V"⟩ ⟨"KettleChoir", "meddle", "(II)V"⟩ ∈ kt_T := List.mem_filter.mpr ⟨kc_lw_privs_4 (⟨"KettleChoir", "meddle", "(II)V"⟩, 12) (List.mem_of_getElem? (i := 10) rfl), rfl⟩
set_option maxRecDepth 20000 in
theorem kw_555 : Cond.methodLink "KettleChoir" 289 ⟨"KettleChoir", "highestNote", "([I)I"⟩ ∈ kt_T := List.mem_filter.mpr ⟨kc_tables_1_5 _ (List.mem_of_getElem? (i := 159) rfl), rfl⟩
set_option maxRecDepth 20000 in
theorem kw_556 : Cond.instanceMethod ⟨"KettleChoir", "highestNote", "([I)I"⟩ ∈ kt_T := List.mem_filter.mpr ⟨kc_tables_1_5 _ (List.mem_of_getElem? (i := 161) rfl), rfl⟩
set_option maxRecDepth 20000 in
theorem kw_557 : Cond.selects "KettleChoir" ⟨"KettleChoir", "highestNote", "([I)I"⟩ ⟨"KettleChoir", "highestNote", "([I)I"⟩ ∈ kt_T := List.mem_filter.mpr ⟨kc_lw_privs_4 (⟨"KettleChoir", "highestNote", "([I)I"⟩, 12) (List.mem_of_getElem? (i := 12) rfl), rfl⟩
set_option maxRecDepth 20000 in
theorem kw_558 : Cond.methodLink "KettleChoir" 292 ⟨"java/lang/Math", "max", "(II)I"⟩ ∈ kt_T := List.mem_filter.mpr ⟨kc_tables_1_5 _ (List.mem_of_getElem? (i := 163) rfl), rfl⟩
set_option maxRecDepth 20000 in
theorem kw_559 : Cond.methodLink "KettleChoir" 295 ⟨"java/lang/Integer", "bitCount", "(I)I"⟩ ∈ kt_T := List.mem_filter.mpr ⟨kc_tables_1_5 _ (List.mem_of_getElem? (i := 164) rfl), rfl⟩
set_option maxRecDepth 20000 in
theorem kw_560 : Cond.static ⟨"java/lang/Integer", "bitCount", "(I)I"⟩ ∈ kt_T := List.mem_filter.mpr ⟨kc_tables_1_5 _ (List.mem_of_getElem? (i := 165) rfl), rfl⟩
set_option maxRecDepth 20000 in
theorem kw_561 : Cond.code ⟨"KettleChoir", "evening", "(III)I"⟩ prog_1_method_32_code 9 (some .int) ∈ kt_T := List.mem_filter.mpr ⟨kc_tables_1_5 _ (List.mem_of_getElem? (i := 139) rfl), rfl⟩
set_option maxRecDepth 20000 in
theorem kw_562 : Cond.fieldLink "KettleChoir" 300 "KettleChoir" "kept" "LKettleChoir$Image;" ∈ kt_T := List.mem_filter.mpr ⟨kc_tables_1_2 _ (List.mem_of_getElem? (i := 68) rfl), rfl⟩
set_option maxRecDepth 20000 in
theorem kw_563 : Cond.classLink "KettleChoir" 304 "KettleChoir$Image" ∈ kt_T := List.mem_filter.mpr ⟨kc_tables_1_2 _ (List.mem_of_getElem? (i := 226) rfl), rfl⟩
set_option maxRecDepth 20000 in
theorem kw_564 : Cond.instanceMethod ⟨"KettleChoir$Image", "<init>", "()V"⟩ ∈ kt_T := List.mem_filter.mpr ⟨kc_tables_1_2 _ (List.mem_of_getElem? (i := 229) rfl), rfl⟩
set_option maxRecDepth 20000 in
theorem kw_565 : Cond.methodLink "KettleChoir" 307 ⟨"KettleChoir$Image", "keep", "([ILKettleChoir$Acts;LKettleChoir$Heard;[I)V"⟩ ∈ kt_T := List.mem_filter.mpr ⟨kc_tables_1_3 _ (List.mem_of_getElem? (i := 9) rfl), rfl⟩
set_option maxRecDepth 20000 in
theorem kw_566 : Cond.instanceMethod ⟨"KettleChoir$Image", "keep", "([ILKettleChoir$Acts;LKettleChoir$Heard;[I)V"⟩ ∈ kt_T := List.mem_filter.mpr ⟨kc_tables_1_3 _ (List.mem_of_getElem? (i := 10) rfl), rfl⟩
set_option maxRecDepth 20000 in
theorem kw_567 : Cond.selects "KettleChoir$Image" ⟨"KettleChoir$Image", "keep", "([ILKettleChoir$Acts;LKettleChoir$Heard;[I)V"⟩ ⟨"KettleChoir$Image", "keep", "([ILKettleChoir$Acts;LKettleChoir$Heard;[I)V"⟩ ∈ kt_T := List.mem_filter.mpr ⟨kc_tables_1_3 _ (List.mem_of_getElem? (i := 11) rfl), rfl⟩
set_option maxRecDepth 20000 in
theorem kw_568 : Cond.code ⟨"KettleChoir", "image", "()V"⟩ prog_1_method_33_code 1 none ∈ kt_T := List.mem_filter.mpr ⟨kc_tables_1_2 _ (List.mem_of_getElem? (i := 225) rfl), rfl⟩
set_option maxRecDepth 20000 in
theorem kw_569 : Cond.methodLink "KettleChoir" 311 ⟨"KettleChoir$Image", "giveBack", "([ILKettleChoir$Acts;LKettleChoir$Heard;[I)V"⟩ ∈ kt_T := List.mem_filter.mpr ⟨kc_tables_1_3 _ (List.mem_of_getElem? (i := 27) rfl), rfl⟩
set_option maxRecDepth 20000 in
theorem kw_570 : Cond.instanceMethod ⟨"KettleChoir$Image", "giveBack", "([ILKettleChoir$Acts;LKettleChoir$Heard;[I)V"⟩ ∈ kt_T := List.mem_filter.mpr ⟨kc_tables_1_3 _ (List.mem_of_getElem? (i := 28) rfl), rfl⟩
set_option maxRecDepth 20000 in
theorem kw_571 : Cond.selects "KettleChoir$Image" ⟨"KettleChoir$Image", "giveBack", "([ILKettleChoir$Acts;LKettleChoir$Heard;[I)V"⟩ ⟨"KettleChoir$Image", "giveBack", "([ILKettleChoir$Acts;LKettleChoir$Heard;[I)V"⟩ ∈ kt_T := List.mem_filter.mpr ⟨kc_tables_1_3 _ (List.mem_of_getElem? (i := 29) rfl), rfl⟩
set_option maxRecDepth 20000 in
theorem kw_572 : Cond.code ⟨"KettleChoir", "restore", "()Z"⟩ prog_1_method_34_code 1 (some .boolean) ∈ kt_T := List.mem_filter.mpr ⟨kc_tables_1_3 _ (List.mem_of_getElem? (i := 26) rfl), rfl⟩
set_option maxRecDepth 20000 in
theorem kw_573 : Cond.code ⟨"KettleChoir", "needKettle", "(I)V"⟩ prog_1_method_35_code 2 none ∈ kt_T := List.mem_filter.mpr ⟨kc_tables_1_4 _ (List.mem_of_getElem? (i := 109) rfl), rfl⟩
set_option maxRecDepth 20000 in
theorem kw_574 : Cond.code ⟨"KettleChoir", "needStove", "(I)V"⟩ prog_1_method_36_code 2 none ∈ kt_T := List.mem_filter.mpr ⟨kc_tables_1_4 _ (List.mem_of_getElem? (i := 122) rfl), rfl⟩
set_option maxRecDepth 20000 in
theorem kw_575 : Cond.code ⟨"KettleChoir", "needDish", "(I)V"⟩ prog_1_method_37_code 2 none ∈ kt_T := List.mem_filter.mpr ⟨kc_tables_1_4 _ (List.mem_of_getElem? (i := 139) rfl), rfl⟩
set_option maxRecDepth 20000 in
theorem kw_576 : Cond.code ⟨"KettleChoir", "needFarMinutes", "(I)V"⟩ prog_1_method_38_code 2 none ∈ kt_T := List.mem_filter.mpr ⟨kc_tables_1_4 _ (List.mem_of_getElem? (i := 180) rfl), rfl⟩
set_option maxRecDepth 20000 in
theorem kw_577 : Cond.methodLink "KettleChoir" 322 ⟨"KettleChoir$Acts", "push", "([I)V"⟩ ∈ kt_T := List.mem_filter.mpr ⟨kc_tables_1_2 _ (List.mem_of_getElem? (i := 115) rfl), rfl⟩
set_option maxRecDepth 20000 in
theorem kw_578 : Cond.instanceMethod ⟨"KettleChoir$Acts", "push", "([I)V"⟩ ∈ kt_T := List.mem_filter.mpr ⟨kc_tables_1_2 _ (List.mem_of_getElem? (i := 116) rfl), rfl⟩
set_option maxRecDepth 20000 in
theorem kw_579 : Cond.selects "KettleChoir$Acts" ⟨"KettleChoir$Acts", "push", "([I)V"⟩ ⟨"KettleChoir$Acts", "push", "([I)V"⟩ ∈ kt_T := List.mem_filter.mpr ⟨kc_tables_1_2 _ (List.mem_of_getElem? (i := 117) rfl), rfl⟩
set_option maxRecDepth 20000 in
theorem kw_580 : Cond.code ⟨"KettleChoir", "beginAct", "()V"⟩ prog_1_method_39_code 1 none ∈ kt_T := List.mem_filter.mpr ⟨kc_tables_1_2 _ (List.mem_of_getElem? (i := 114) rfl), rfl⟩
set_option maxRecDepth 20000 in
theorem kw_581 : Cond.fieldLink "KettleChoir" 325 "KettleChoir$Planner" "known" "I" ∈ kt_T := List.mem_filter.mpr ⟨kc_tables_1_2 _ (List.mem_of_getElem? (i := 30) rfl), rfl⟩
set_option maxRecDepth 20000 in
theorem kw_582 : Cond.fieldLink "KettleChoir" 328 "KettleChoir$Ear" "known" "Z" ∈ kt_T := List.mem_filter.mpr ⟨kc_tables_1_1 _ (List.mem_of_getElem? (i := 228) rfl), rfl⟩
set_option maxRecDepth 20000 in
theorem kw_583 : Cond.code ⟨"KettleChoir", "changed", "()V"⟩ prog_1_method_40_code 1 none ∈ kt_T := List.mem_filter.mpr ⟨kc_tables_1_2 _ (List.mem_of_getElem? (i := 125) rfl), rfl⟩
set_option maxRecDepth 20000 in
theorem kw_584 : Cond.methodLink "KettleChoir" 330 ⟨"java/lang/System", "arraycopy", "(Ljava/lang/Object;ILjava/lang/Object;II)V"⟩ ∈ kt_T := List.mem_filter.mpr ⟨kc_tables_1_2 _ (List.mem_of_getElem? (i := 205) rfl), rfl⟩
set_option maxRecDepth 20000 in
theorem kw_585 : Cond.code ⟨"KettleChoir", "beginTrial", "()V"⟩ prog_1_method_41_code 1 none ∈ kt_T := List.mem_filter.mpr ⟨kc_tables_1_2 _ (List.mem_of_getElem? (i := 204) rfl), rfl⟩
set_option maxRecDepth 20000 in
theorem kw_586 : Cond.code ⟨"KettleChoir", "singing", "()I"⟩ prog_1_method_42_code 3 (some .int) ∈ kt_T := List.mem_filter.mpr ⟨kc_tables_1_2 _ (List.mem_of_getElem? (i := 200) rfl), rfl⟩
set_option maxRecDepth 20000 in
theorem kw_587 : Cond.code ⟨"KettleChoir", "readyDishes", "([I)I"⟩ prog_1_method_43_code 4 (some .int) ∈ kt_T := List.mem_filter.mpr ⟨kc_tables_1_4 _ (List.mem_of_getElem? (i := 67) rfl), rfl⟩
set_option maxRecDepth 20000 in
theorem kw_588 : Cond.code ⟨"KettleChoir", "lids", "()I"⟩ prog_1_method_44_code 3 (some .int) ∈ kt_T := List.mem_filter.mpr ⟨kc_tables_1_4 _ (List.mem_of_getElem? (i := 71) rfl), rfl⟩
set_option maxRecDepth 20000 in
theorem kw_589 : Cond.methodLink "KettleChoir" 336 ⟨"KettleChoir", "apart", "(II)I"⟩ ∈ kt_T := List.mem_filter.mpr ⟨kc_tables_1_4 _ (List.mem_of_getElem? (i := 76) rfl), rfl⟩
set_option maxRecDepth 20000 in
theorem kw_590 : Cond.instanceMethod ⟨"KettleChoir", "apart", "(II)I"⟩ ∈ kt_T := List.mem_filter.mpr ⟨kc_tables_1_4 _ (List.mem_of_getElem? (i := 78) rfl), rfl⟩
set_option maxRecDepth 20000 in
theorem kw_591 : Cond.selects "KettleChoir" ⟨"KettleChoir", "apart", "(II)I"⟩ ⟨"KettleChoir", "apart", "(II)I"⟩ ∈ kt_T := List.mem_filter.mpr ⟨kc_lw_privs_3 (⟨"KettleChoir", "apart", "(II)I"⟩, 12) (List.mem_of_getElem? (i := 5) rfl), rfl⟩
set_option maxRecDepth 20000 in
theorem kw_592 : Cond.code ⟨"KettleChoir", "thirds", "()I"⟩ prog_1_method_45_code 5 (some .int) ∈ kt_T := List.mem_filter.mpr ⟨kc_tables_1_4 _ (List.mem_of_getElem? (i := 75) rfl), rfl⟩
set_option maxRecDepth 20000 in
theorem kw_593 : Cond.code ⟨"KettleChoir", "apart", "(II)I"⟩ prog_1_method_46_code 5 (some .int) ∈ kt_T := List.mem_filter.mpr ⟨kc_tables_1_4 _ (List.mem_of_getElem? (i := 79) rfl), rfl⟩
set_option maxRecDepth 20000 in
theorem kw_594 : Cond.methodLink "KettleChoir" 339 ⟨"KettleChoir$Kitchen", "boil", "([II)V"⟩ ∈ kt_T := List.mem_filter.mpr ⟨kc_tables_1_5 _ (List.mem_of_getElem? (i := 76) rfl), rfl⟩
set_option maxRecDepth 20000 in
theorem kw_595 : Cond.code ⟨"KettleChoir", "burn", "(II)I"⟩ prog_1_method_47_code 4 (some .int) ∈ kt_T := List.mem_filter.mpr ⟨kc_tables_1_5 _ (List.mem_of_getElem? (i := 75) rfl), rfl⟩
set_option maxRecDepth 20000 in
theorem kw_596 : Cond.methodLink "KettleChoir" 342 ⟨"KettleChoir", "gain", "(IIII)I"⟩ ∈ kt_T := List.mem_filter.mpr ⟨kc_tables_1_5 _ (List.mem_of_getElem? (i := 129) rfl), rfl⟩
set_option maxRecDepth 20000 in
theorem kw_597 : Cond.instanceMethod ⟨"KettleChoir", "gain", "(IIII)I"⟩ ∈ kt_T := List.mem_filter.mpr ⟨kc_tables_1_5 _ (List.mem_of_getElem? (i := 131) rfl), rfl⟩
set_option maxRecDepth 20000 in
theorem kw_598 : Cond.selects "KettleChoir" ⟨"KettleChoir", "gain", "(IIII)I"⟩ ⟨"KettleChoir", "gain", "(IIII)I"⟩ ∈ kt_T := List.mem_filter.mpr ⟨kc_lw_privs_4 (⟨"KettleChoir", "gain", "(IIII)I"⟩, 12) (List.mem_of_getElem? (i := 7) rfl), rfl⟩
set_option maxRecDepth 20000 in
theorem kw_599 : Cond.code ⟨"KettleChoir", "isBest", "(IIII)Z"⟩ prog_1_method_48_code 5 (some .boolean) ∈ kt_T := List.mem_filter.mpr ⟨kc_tables_1_5 _ (List.mem_of_getElem? (i := 128) rfl), rfl⟩
set_option maxRecDepth 20000 in
theorem kw_600 : Cond.code ⟨"KettleChoir", "gain", "(IIII)I"⟩ prog_1_method_49_code 8 (some .int) ∈ kt_T := List.mem_filter.mpr ⟨kc_tables_1_5 _ (List.mem_of_getElem? (i := 132) rfl), rfl⟩
set_option maxRecDepth 20000 in
theorem kw_601 : Cond.constant "KettleChoir" 346 (1103515245 : Int32) ∈ kt_T := List.mem_filter.mpr ⟨kc_tables_1_5 _ (List.mem_of_getElem? (i := 146) rfl), rfl⟩
set_option maxRecDepth 20000 in
theorem kw_602 : Cond.code ⟨"KettleChoir", "nextSeed", "(I)I"⟩ prog_1_method_50_code 2 (some .int) ∈ kt_T := List.mem_filter.mpr ⟨kc_tables_1_5 _ (List.mem_of_getElem? (i := 145) rfl), rfl⟩
set_option maxRecDepth 20000 in
theorem kw_603 : Cond.code ⟨"KettleChoir", "draw", "(II)I"⟩ prog_1_method_51_code 3 (some .int) ∈ kt_T := List.mem_filter.mpr ⟨kc_tables_1_5 _ (List.mem_of_getElem? (i := 150) rfl), rfl⟩
set_option maxRecDepth 20000 in
theorem kw_604 : Cond.methodLink "KettleChoir" 347 ⟨"KettleChoir", "freeStove", "()I"⟩ ∈ kt_T := List.mem_filter.mpr ⟨kc_tables_1_5 _ (List.mem_of_getElem? (i := 155) rfl), rfl⟩
set_option maxRecDepth 20000 in
theorem kw_605 : Cond.instanceMethod ⟨"KettleChoir", "freeStove", "()I"⟩ ∈ kt_T := List.mem_filter.mpr ⟨kc_tables_1_5 _ (List.mem_of_getElem? (i := 157) rfl), rfl⟩
set_option maxRecDepth 20000 in
theorem kw_606 : Cond.selects "KettleChoir" ⟨"KettleChoir", "freeStove", "()I"⟩ ⟨"KettleChoir", "freeStove", "()I"⟩ ∈ kt_T := List.mem_filter.mpr ⟨kc_lw_privs_4 (⟨"KettleChoir", "freeStove", "()I"⟩, 12) (List.mem_of_getElem? (i := 11) rfl), rfl⟩
set_option maxRecDepth 20000 in
theorem kw_607 : Cond.code ⟨"KettleChoir", "meddle", "(II)V"⟩ prog_1_method_52_code 3 none ∈ kt_T := List.mem_filter.mpr ⟨kc_tables_1_5 _ (List.mem_of_getElem? (i := 154) rfl), rfl⟩
set_option maxRecDepth 20000 in
theorem kw_608 : Cond.code ⟨"KettleChoir", "freeStove", "()I"⟩ prog_1_method_53_code 2 (some .int) ∈ kt_T := List.mem_filter.mpr ⟨kc_tables_1_5 _ (List.mem_of_getElem? (i := 158) rfl), rfl⟩
set_option maxRecDepth 20000 in
theorem kw_609 : Cond.code ⟨"KettleChoir", "highestNote", "([I)I"⟩ prog_1_method_54_code 4 (some .int) ∈ kt_T := List.mem_filter.mpr ⟨kc_tables_1_5 _ (List.mem_of_getElem? (i := 162) rfl), rfl⟩
set_option maxRecDepth 20000 in
theorem kw_610 : Cond.methodLink "KettleChoirModel" 3 ⟨"java/lang/Object", "<init>", "()V"⟩ ∈ kt_T := List.mem_filter.mpr ⟨kc_tables_1_5 _ (List.mem_of_getElem? (i := 175) rfl), rfl⟩
set_option maxRecDepth 20000 in
theorem kw_611 : Cond.classLink "KettleChoirModel" 9 "java/lang/String" ∈ kt_T := List.mem_filter.mpr ⟨kc_tables_1_5 _ (List.mem_of_getElem? (i := 176) rfl), rfl⟩
set_option maxRecDepth 20000 in
theorem kw_612 : Cond.fieldLink "KettleChoirModel" 19 "KettleChoirModel" "kinds" "[Ljava/lang/String;" ∈ kt_T := List.mem_filter.mpr ⟨kc_tables_1_5 _ (List.mem_of_getElem? (i := 189) rfl), rfl⟩
set_option maxRecDepth 20000 in
theorem kw_613 : Cond.fieldLink "KettleChoirModel" 37 "KettleChoirModel" "values" "[Ljava/lang/String;" ∈ kt_T := List.mem_filter.mpr ⟨kc_tables_1_5 _ (List.mem_of_getElem? (i := 190) rfl), rfl⟩
set_option maxRecDepth 20000 in
theorem kw_614 : Cond.fieldLink "KettleChoirModel" 40 "KettleChoirModel" "told" "[I" ∈ kt_T := List.mem_filter.mpr ⟨kc_tables_1_5 _ (List.mem_of_getElem? (i := 192) rfl), rfl⟩
set_option maxRecDepth 20000 in
theorem kw_615 : Cond.fieldLink "KettleChoirModel" 44 "KettleChoirModel" "kind" "[I" ∈ kt_T := List.mem_filter.mpr ⟨kc_tables_1_5 _ (List.mem_of_getElem? (i := 193) rfl), rfl⟩
set_option maxRecDepth 20000 in
theorem kw_616 : Cond.fieldLink "KettleChoirModel" 47 "KettleChoirModel" "spout" "[I" ∈ kt_T := List.mem_filter.mpr ⟨kc_tables_1_5 _ (List.mem_of_getElem? (i := 194) rfl), rfl⟩
set_option maxRecDepth 20000 in
theorem kw_617 : Cond.fieldLink "KettleChoirModel" 50 "KettleChoirModel" "sizeOf" "[I" ∈ kt_T := List.mem_filter.mpr ⟨kc_tables_1_5 _ (List.mem_of_getElem? (i := 195) rfl), rfl⟩
set_option maxRecDepth 20000 in
theorem kw_618 : Cond.fieldLink "KettleChoirModel" 53 "KettleChoirModel" "fillTold" "[I" ∈ kt_T := List.mem_filter.mpr ⟨kc_tables_1_5 _ (List.mem_of_getElem? (i := 196) rfl), rfl⟩
set_option maxRecDepth 20000 in
theorem kw_619 : Cond.fieldLink "KettleChoirModel" 56 "KettleChoirModel" "chalkTold" "[I" ∈ kt_T := List.mem_filter.mpr ⟨kc_tables_1_5 _ (List.mem_of_getElem? (i := 197) rfl), rfl⟩
set_option maxRecDepth 20000 in
theorem kw_620 : Cond.fieldLink "KettleChoirModel" 59 "KettleChoirModel" "power" "[I" ∈ kt_T := List.mem_filter.mpr ⟨kc_tables_1_5 _ (List.mem_of_getElem? (i := 198) rfl), rfl⟩
set_option maxRecDepth 20000 in
theorem kw_621 : Cond.fieldLink "KettleChoirModel" 62 "KettleChoirModel" "stepMany" "[I" ∈ kt_T := List.mem_filter.mpr ⟨kc_tables_1_5 _ (List.mem_of_getElem? (i := 199) rfl), rfl⟩
set_option maxRecDepth 20000 in
theorem kw_622 : Cond.fieldLink "KettleChoirModel" 65 "KettleChoirModel" "steps" "[I" ∈ kt_T := List.mem_filter.mpr ⟨kc_tables_1_5 _ (List.mem_of_getElem? (i := 200) rfl), rfl⟩
set_option maxRecDepth 20000 in
theorem kw_623 : Cond.fieldLink "KettleChoirModel" 68 "KettleChoirModel" "signs" "[I" ∈ kt_T := List.mem_filter.mpr ⟨kc_tables_1_5 _ (List.mem_of_getElem? (i := 201) rfl), rfl⟩
set_option maxRecDepth 20000 in
theorem kw_624 : Cond.fieldLink "KettleChoirModel" 71 "KettleChoirModel" "status" "[I" ∈ kt_T := List.mem_filter.mpr ⟨kc_tables_1_5 _ (List.mem_of_getElem? (i := 202) rfl), rfl⟩
set_option maxRecDepth 20000 in
theorem kw_625 : Cond.fieldLink "KettleChoirModel" 74 "KettleChoirModel" "tape" "[I" ∈ kt_T := List.mem_filter.mpr ⟨kc_tables_1_5 _ (List.mem_of_getElem? (i := 203) rfl), rfl⟩
set_option maxRecDepth 20000 in
theorem kw_626 : Cond.fieldLink "KettleChoirModel" 77 "KettleChoirModel" "faultPlace" "I" ∈ kt_T := List.mem_filter.mpr ⟨kc_tables_1_5 _ (List.mem_of_getElem? (i := 213) rfl), rfl⟩
set_option maxRecDepth 20000 in
theorem kw_627 : Cond.fieldLink "KettleChoirModel" 81 "KettleChoirModel" "on" "[I" ∈ kt_T := List.mem_filter.mpr ⟨kc_tables_1_5 _ (List.mem_of_getElem? (i := 214) rfl), rfl⟩
set_option maxRecDepth 20000 in
theorem kw_628 : Cond.fieldLink "KettleChoirModel" 84 "KettleChoirModel" "heat" "[I" ∈ kt_T := List.mem_filter.mpr ⟨kc_tables_1_5 _ (List.mem_of_getElem? (i := 215) rfl), rfl⟩
set_option maxRecDepth 20000 in
theorem kw_629 : Cond.fieldLink "KettleChoirModel" 86 "KettleChoirModel" "fill" "[I" ∈ kt_T := List.mem_filter.mpr ⟨kc_tables_1_5 _ (List.mem_of_getElem? (i := 216) rfl), rfl⟩
set_option maxRecDepth 20000 in
theorem kw_630 : Cond.fieldLink "KettleChoirModel" 88 "KettleChoirModel" "chalk" "[I" ∈ kt_T := List.mem_filter.mpr ⟨kc_tables_1_5 _ (List.mem_of_getElem? (i := 217) rfl), rfl⟩
set_option maxRecDepth 20000 in
theorem kw_631 : Cond.fieldLink "KettleChoirModel" 90 "KettleChoirModel" "sung" "[I" ∈ kt_T := List.mem_filter.mpr ⟨kc_tables_1_5 _ (List.mem_of_getElem? (i := 218) rfl), rfl⟩
set_option maxRecDepth 20000 in
theorem kw_632 : Cond.fieldLink "KettleChoirModel" 92 "KettleChoirModel" "note" "[I" ∈ kt_T := List.mem_filter.mpr ⟨kc_tables_1_5 _ (List.mem_of_getElem? (i := 219) rfl), rfl⟩
set_option maxRecDepth 20000 in
theorem kw_633 : Cond.fieldLink "KettleChoirModel" 94 "KettleChoirModel" "ready" "[I" ∈ kt_T := List.mem_filter.mpr ⟨kc_tables_1_5 _ (List.mem_of_getElem? (i := 220) rfl), rfl⟩
set_option maxRecDepth 20000 in
theorem kw_634 : Cond.fieldLink "KettleChoirModel" 97 "KettleChoirModel" "past" "[I" ∈ kt_T := List.mem_filter.mpr ⟨kc_tables_1_5 _ (List.mem_of_getElem? (i := 221) rfl), rfl⟩
set_option maxRecDepth 20000 in
theorem kw_635 : Cond.fieldLink "KettleChoirModel" 100 "KettleChoirModel" "asked" "[I" ∈ kt_T := List.mem_filter.mpr ⟨kc_tables_1_5 _ (List.mem_of_getElem? (i := 225) rfl), rfl⟩
set_option maxRecDepth 20000 in
theorem kw_636 : Cond.fieldLink "KettleChoirModel" 103 "KettleChoirModel" "stack" "[I" ∈ kt_T := List.mem_filter.mpr ⟨kc_tables_1_5 _ (List.mem_of_getElem? (i := 226) rfl), rfl⟩
set_option maxRecDepth 20000 in
theorem kw_637 : Cond.fieldLink "KettleChoirModel" 106 "KettleChoirModel" "rowThen" "[I" ∈ kt_T := List.mem_filter.mpr ⟨kc_tables_1_5 _ (List.mem_of_getElem? (i := 227) rfl), rfl⟩
set_option maxRecDepth 20000 in
theorem kw_638 : Cond.fieldLink "KettleChoirModel" 109 "KettleChoirModel" "places" "[I" ∈ kt_T := List.mem_filter.mpr ⟨kc_tables_1_5 _ (List.mem_of_getElem? (i := 228) rfl), rfl⟩
set_option maxRecDepth 20000 in
theorem kw_639 : Cond.fieldLink "KettleChoirModel" 112 "KettleChoirModel" "bestPlaces" "[I" ∈ kt_T := List.mem_filter.mpr ⟨kc_tables_1_5 _ (List.mem_of_getElem? (i := 229) rfl), rfl⟩
set_option maxRecDepth 20000 in
theorem kw_640 : Cond.fieldLink "KettleChoirModel" 115 "KettleChoirModel" "rowSoon" "[I" ∈ kt_T := List.mem_filter.mpr ⟨kc_tables_1_5 _ (List.mem_of_getElem? (i := 230) rfl), rfl⟩
set_option maxRecDepth 20000 in
theorem kw_641 : Cond.fieldLink "KettleChoirModel" 118 "KettleChoirModel" "heardIn" "[I" ∈ kt_T := List.mem_filter.mpr ⟨kc_tables_1_5 _ (List.mem_of_getElem? (i := 232) rfl), rfl⟩
set_option maxRecDepth 20000 in
theorem kw_642 : Cond.fieldLink "KettleChoirModel" 121 "KettleChoirModel" "heardNote" "[I" ∈ kt_T := List.mem_filter.mpr ⟨kc_tables_1_5 _ (List.mem_of_getElem? (i := 233) rfl), rfl⟩
set_option maxRecDepth 20000 in
theorem kw_643 : Cond.fieldLink "KettleChoirModel" 124 "KettleChoirModel" "rowHeard" "[I" ∈ kt_T := List.mem_filter.mpr ⟨kc_tables_1_5 _ (List.mem_of_getElem? (i := 234) rfl), rfl⟩
set_option maxRecDepth 20000 in
theorem kw_644 : Cond.fieldLink "KettleChoirModel" 127 "KettleChoirModel" "fits" "[I" ∈ kt_T := List.mem_filter.mpr ⟨kc_tables_1_5 _ (List.mem_of_getElem? (i := 235) rfl), rfl⟩
set_option maxRecDepth 20000 in
theorem kw_645 : Cond.fieldLink "KettleChoirModel" 130 "KettleChoirModel" "choirs" "[J" ∈ kt_T := List.mem_filter.mpr ⟨kc_tables_1_5 _ (List.mem_of_getElem? (i := 237) rfl), rfl⟩
set_option maxRecDepth 20000 in
theorem kw_646 : Cond.fieldLink "KettleChoirModel" 134 "KettleChoirModel" "imageRow" "[I" ∈ kt_T := List.mem_filter.mpr ⟨kc_tables_1_6 _ (List.mem_of_getElem? (i := 2) rfl), rfl⟩
set_option maxRecDepth 20000 in
theorem kw_647 : Cond.fieldLink "KettleChoirModel" 137 "KettleChoirModel" "pastThen" "[I" ∈ kt_T := List.mem_filter.mpr ⟨kc_tables_1_6 _ (List.mem_of_getElem? (i := 3) rfl), rfl⟩
set_option maxRecDepth 20000 in
theorem kw_648 : Cond.fieldLink "KettleChoirModel" 140 "KettleChoirModel" "heardInThen" "[I" ∈ kt_T := List.mem_filter.mpr ⟨kc_tables_1_6 _ (List.mem_of_getElem? (i := 4) rfl), rfl⟩
set_option maxRecDepth 20000 in
theorem kw_649 : Cond.fieldLink "KettleChoirModel" 143 "KettleChoirModel" "heardNoteThen" "[I" ∈ kt_T := List.mem_filter.mpr ⟨kc_tables_1_6 _ (List.mem_of_getElem? (i := 5) rfl), rfl⟩
set_option maxRecDepth 20000 in
theorem kw_650 : Cond.fieldLink "KettleChoirModel" 146 "KettleChoirModel" "statusThen" "[I" ∈ kt_T := List.mem_filter.mpr ⟨kc_tables_1_6 _ (List.mem_of_getElem? (i := 6) rfl), rfl⟩
set_option maxRecDepth 20000 in
theorem kw_651 : Cond.initialized "KettleChoirModel" ∈ kt_T := List.mem_filter.mpr ⟨kc_tables_1_1 _ (List.mem_of_getElem? (i := 10) rfl), rfl⟩
set_option maxRecDepth 20000 in
theorem kw_652 : Cond.code ⟨"KettleChoirModel", "<init>", "()V"⟩ prog_12_method_1_code 1 none ∈ kt_T := List.mem_filter.mpr ⟨kc_tables_1_5 _ (List.mem_of_getElem? (i := 174) rfl), rfl⟩
set_option maxRecDepth 20000 in
theorem kw_653 : Cond.fieldLink "KettleChoirModel" 149 "KettleChoirModel" "code" "I" ∈ kt_T := List.mem_filter.mpr ⟨kc_tables_1_5 _ (List.mem_of_getElem? (i := 191) rfl), rfl⟩
set_option maxRecDepth 20000 in
theorem kw_654 : Cond.code ⟨"KettleChoirModel", "thrown", "()I"⟩ prog_12_method_2_code 1 (some .int) ∈ kt_T := List.mem_filter.mpr ⟨kc_tables_1_6 _ (List.mem_of_getElem? (i := 127) rfl), rfl⟩
set_option maxRecDepth 20000 in
theorem kw_655 : Cond.code ⟨"KettleChoirModel", "fail", "(I)I"⟩ prog_12_method_3_code 2 (some .int) ∈ kt_T := List.mem_filter.mpr ⟨kc_tables_1_6 _ (List.mem_of_getElem? (i := 139) rfl), rfl⟩
set_option maxRecDepth 20000 in
theorem kw_656 : Cond.code ⟨"KettleChoirModel", "failing", "(I)Z"⟩ prog_12_method_4_code 2 (some .boolean) ∈ kt_T := List.mem_filter.mpr ⟨kc_tables_1_7 _ (List.mem_of_getElem? (i := 143) rfl), rfl⟩
set_option maxRecDepth 20000 in
theorem kw_657 : Cond.code ⟨"KettleChoirModel", "isIn", "(JJJ)Z"⟩ prog_12_method_5_code 6 (some .boolean) ∈ kt_T := List.mem_filter.mpr ⟨kc_tables_1_7 _ (List.mem_of_getElem? (i := 38) rfl), rfl⟩
set_option maxRecDepth 20000 in
theorem kw_658 : Cond.code ⟨"KettleChoirModel", "isOf", "(II)Z"⟩ prog_12_method_6_code 2 (some .boolean) ∈ kt_T := List.mem_filter.mpr ⟨kc_tables_1_7 _ (List.mem_of_getElem? (i := 227) rfl), rfl⟩
set_option maxRecDepth 20000 in
theorem kw_659 : Cond.methodLink "KettleChoirModel" 152 ⟨"KettleChoirModel", "isIn", "(JJJ)Z"⟩ ∈ kt_T := List.mem_filter.mpr ⟨kc_tables_1_7 _ (List.mem_of_getElem? (i := 36) rfl), rfl⟩
set_option maxRecDepth 20000 in
theorem kw_660 : Cond.static ⟨"KettleChoirModel", "isIn", "(JJJ)Z"⟩ ∈ kt_T := List.mem_filter.mpr ⟨kc_tables_1_7 _ (List.mem_of_getElem? (i := 37) rfl), rfl⟩
set_option maxRecDepth 20000 in
theorem kw_661 : Cond.code ⟨"KettleChoirModel", "isKettle", "(I)Z"⟩ prog_12_method_7_code 2 (some .boolean) ∈ kt_T := List.mem_filter.mpr ⟨kc_tables_1_7 _ (List.mem_of_getElem? (i := 46) rfl), rfl⟩
set_option maxRecDepth 20000 in
theorem kw_662 : Cond.code ⟨"KettleChoirModel", "isStove", "(I)Z"⟩ prog_12_method_8_code 2 (some .boolean) ∈ kt_T := List.mem_filter.mpr ⟨kc_tables_1_7 _ (List.mem_of_getElem? (i := 54) rfl), rfl⟩
set_option maxRecDepth 20000 in
theorem kw_663 : Cond.code ⟨"KettleChoirModel", "isDish", "(I)Z"⟩ prog_12_method_9_code 2 (some .boolean) ∈ kt_T := List.mem_filter.mpr ⟨kc_tables_1_7 _ (List.mem_of_getElem? (i := 66) rfl), rfl⟩
set_option maxRecDepth 20000 in
theorem kw_664 : Cond.fieldLink "KettleChoirModel" 156 "KettleChoirModel" "taped" "I" ∈ kt_T := List.mem_filter.mpr ⟨kc_tables_1_5 _ (List.mem_of_getElem? (i := 204) rfl), rfl⟩
set_option maxRecDepth 20000 in
theorem kw_665 : Cond.code ⟨"KettleChoirModel", "feed", "(IIIII)I"⟩ prog_12_method_10_code 8 (some .int) ∈ kt_T := List.mem_filter.mpr ⟨kc_tables_1_6 _ (List.mem_of_getElem? (i := 131) rfl), rfl⟩
set_option maxRecDepth 20000 in
theorem kw_666 : Cond.fieldLink "KettleChoirModel" 159 "KettleChoirModel" "size" "I" ∈ kt_T := List.mem_filter.mpr ⟨kc_tables_1_5 _ (List.mem_of_getElem? (i := 206) rfl), rfl⟩
set_option maxRecDepth 20000 in
theorem kw_667 : Cond.code ⟨"KettleChoirModel", "byteAt", "(I)I"⟩ prog_12_method_11_code 2 (some .int) ∈ kt_T := List.mem_filter.mpr ⟨kc_tables_1_6 _ (List.mem_of_getElem? (i := 147) rfl), rfl⟩
set_option maxRecDepth 20000 in
theorem kw_668 : Cond.code ⟨"KettleChoirModel", "isLetter", "(I)Z"⟩ prog_12_method_12_code 1 (some .boolean) ∈ kt_T := List.mem_filter.mpr ⟨kc_tables_1_6 _ (List.mem_of_getElem? (i := 150) rfl), rfl⟩
set_option maxRecDepth 20000 in
theorem kw_669 : Cond.code ⟨"KettleChoirModel", "isDigit", "(I)Z"⟩ prog_12_method_13_code 1 (some .boolean) ∈ kt_T := List.mem_filter.mpr ⟨kc_tables_1_6 _ (List.mem_of_getElem? (i := 153) rfl), rfl⟩
set_option maxRecDepth 20000 in
theorem kw_670 : Cond.code ⟨"KettleChoirModel", "isMark", "(I)Z"⟩ prog_12_method_14_code 1 (some .boolean) ∈ kt_T := List.mem_filter.mpr ⟨kc_tables_1_6 _ (List.mem_of_getElem? (i := 158) rfl), rfl⟩
set_option maxRecDepth 20000 in
theorem kw_671 : Cond.fieldLink "KettleChoirModel" 162 "KettleChoirModel" "at" "I" ∈ kt_T := List.mem_filter.mpr ⟨kc_tables_1_5 _ (List.mem_of_getElem? (i := 205) rfl), rfl⟩
set_option maxRecDepth 20000 in
theorem kw_672 : Cond.methodLink "KettleChoirModel" 165 ⟨"KettleChoirModel", "byteAt", "(I)I"⟩ ∈ kt_T := List.mem_filter.mpr ⟨kc_tables_1_6 _ (List.mem_of_getElem? (i := 144) rfl), rfl⟩
set_option maxRecDepth 20000 in
theorem kw_673 : Cond.instanceMethod ⟨"KettleChoirModel", "byteAt", "(I)I"⟩ ∈ kt_T := List.mem_filter.mpr ⟨kc_tables_1_6 _ (List.mem_of_getElem? (i := 146) rfl), rfl⟩
set_option maxRecDepth 20000 in
theorem kw_674 : Cond.selects "KettleChoirModel" ⟨"KettleChoirModel", "byteAt", "(I)I"⟩ ⟨"KettleChoirModel", "byteAt", "(I)I"⟩ ∈ kt_T := List.mem_filter.mpr ⟨kc_lw_privs_4 (⟨"KettleChoirModel", "byteAt", "(I)I"⟩, 58) (List.mem_of_getElem? (i := 15) rfl), rfl⟩
set_option maxRecDepth 20000 in
theorem kw_675 : Cond.fieldLink "KettleChoirModel" 169 "KettleChoirModel" "begins" "I" ∈ kt_T := List.mem_filter.mpr ⟨kc_tables_1_5 _ (List.mem_of_getElem? (i := 209) rfl), rfl⟩
set_option maxRecDepth 20000 in
theorem kw_676 : Cond.fieldLink "KettleChoirModel" 172 "KettleChoirModel" "token" "I" ∈ kt_T := List.mem_filter.mpr ⟨kc_tables_1_5 _ (List.mem_of_getElem? (i := 207) rfl), rfl⟩
set_option maxRecDepth 20000 in
theorem kw_677 : Cond.methodLink "KettleChoirModel" 175 ⟨"KettleChoirModel", "isLetter", "(I)Z"⟩ ∈ kt_T := List.mem_filter.mpr ⟨kc_tables_1_6 _ (List.mem_of_getElem? (i := 148) rfl), rfl⟩
set_option maxRecDepth 20000 in
theorem kw_678 : Cond.static ⟨"KettleChoirModel", "isLetter", "(I)Z"⟩ ∈ kt_T := List.mem_filter.mpr ⟨kc_tables_1_6 _ (List.mem_of_getElem? (i := 149) rfl), rfl⟩
set_option maxRecDepth 20000 in
theorem kw_679 : Cond.methodLink "KettleChoirModel" 179 ⟨"KettleChoirModel", "isDigit", "(I)Z"⟩ ∈ kt_T := List.mem_filter.mpr ⟨kc_tables_1_6 _ (List.mem_of_getElem? (i := 151) rfl), rfl⟩
set_option maxRecDepth 20000 in
theorem kw_680 : Cond.static ⟨"KettleChoirModel", "isDigit", "(I)Z"⟩ ∈ kt_T := List.mem_filter.mpr ⟨kc_tables_1_6 _ (List.mem_of_getElem? (i := 152) rfl), rfl⟩
set_option maxRecDepth 20000 in
theorem kw_681 : Cond.fieldLink "KettleChoirModel" 182 "KettleChoirModel" "number" "I" ∈ kt_T := List.mem_filter.mpr ⟨kc_tables_1_5 _ (List.mem_of_getElem? (i := 208) rfl), rfl⟩
set_option maxRecDepth 20000 in
theorem kw_682 : Cond.constant "KettleChoirModel" 185 (100000 : Int32) ∈ kt_T := List.mem_filter.mpr ⟨kc_tables_1_6 _ (List.mem_of_getElem? (i := 154) rfl), rfl⟩
set_option maxRecDepth 20000 in
theorem kw_683 : Cond.methodLink "KettleChoirModel" 186 ⟨"java/lang/Math", "min", "(II)I"⟩ ∈ kt_T := List.mem_filter.mpr ⟨kc_tables_1_6 _ (List.mem_of_getElem? (i := 155) rfl), rfl⟩
set_option maxRecDepth 20000 in
theorem kw_684 : Cond.methodLink "KettleChoirModel" 192 ⟨"KettleChoirModel", "isMark", "(I)Z"⟩ ∈ kt_T := List.mem_filter.mpr ⟨kc_tables_1_6 _ (List.mem_of_getElem? (i := 156) rfl), rfl⟩
set_option maxRecDepth 20000 in
theorem kw_685 : Cond.static ⟨"KettleChoirModel", "isMark", "(I)Z"⟩ ∈ kt_T := List.mem_filter.mpr ⟨kc_tables_1_6 _ (List.mem_of_getElem? (i := 157) rfl), rfl⟩
set_option maxRecDepth 20000 in
theorem kw_686 : Cond.fieldLink "KettleChoirModel" 195 "KettleChoirModel" "stops" "I" ∈ kt_T := List.mem_filter.mpr ⟨kc_tables_1_5 _ (List.mem_of_getElem? (i := 210) rfl), rfl⟩
set_option maxRecDepth 20000 in
theorem kw_687 : Cond.code ⟨"KettleChoirModel", "stepOn", "()V"⟩ prog_12_method_15_code 2 none ∈ kt_T := List.mem_filter.mpr ⟨kc_tables_1_6 _ (List.mem_of_getElem? (i := 143) rfl), rfl⟩
set_option maxRecDepth 20000 in
theorem kw_688 : Cond.fieldLink "KettleChoirModel" 198 "KettleChoirModel" "bad" "I" ∈ kt_T := List.mem_filter.mpr ⟨kc_tables_1_5 _ (List.mem_of_getElem? (i := 211) rfl), rfl⟩
set_option maxRecDepth 20000 in
theorem kw_689 : Cond.fieldLink "KettleChoirModel" 201 "KettleChoirModel" "badPlace" "I" ∈ kt_T := List.mem_filter.mpr ⟨kc_tables_1_5 _ (List.mem_of_getElem? (i := 212) rfl), rfl⟩
set_option maxRecDepth 20000 in
theorem kw_690 : Cond.code ⟨"KettleChoirModel", "wrong", "(I)V"⟩ prog_12_method_16_code 2 none ∈ kt_T := List.mem_filter.mpr ⟨kc_tables_1_6 _ (List.mem_of_getElem? (i := 177) rfl), rfl⟩
set_option maxRecDepth 20000 in
theorem kw_691 : Cond.methodLink "KettleChoirModel" 204 ⟨"java/lang/String", "length", "()I"⟩ ∈ kt_T := List.mem_filter.mpr ⟨kc_tables_1_6 _ (List.mem_of_getElem? (i := 171) rfl), rfl⟩
set_option maxRecDepth 20000 in
theorem kw_692 : Cond.methodLink "KettleChoirModel" 208 ⟨"java/lang/String", "charAt", "(I)C"⟩ ∈ kt_T := List.mem_filter.mpr ⟨kc_tables_1_6 _ (List.mem_of_getElem? (i := 172) rfl), rfl⟩
set_option maxRecDepth 20000 in
theorem kw_693 : Cond.code ⟨"KettleChoirModel", "is", "(Ljava/lang/String;)Z"⟩ prog_12_method_17_code 4 (some .boolean) ∈ kt_T := List.mem_filter.mpr ⟨kc_tables_1_6 _ (List.mem_of_getElem? (i := 170) rfl), rfl⟩
set_option maxRecDepth 20000 in
theorem kw_694 : Cond.methodLink "KettleChoirModel" 212 ⟨"KettleChoirModel", "is", "(Ljava/lang/String;)Z"⟩ ∈ kt_T := List.mem_filter.mpr ⟨kc_tables_1_6 _ (List.mem_of_getElem? (i := 167) rfl), rfl⟩
set_option maxRecDepth 20000 in
theorem kw_695 : Cond.instanceMethod ⟨"KettleChoirModel", "is", "(Ljava/lang/String;)Z"⟩ ∈ kt_T := List.mem_filter.mpr ⟨kc_tables_1_6 _ (List.mem_of_getElem? (i := 169) rfl), rfl⟩
set_option maxRecDepth 20000 in
theorem kw_696 : Cond.selects "KettleChoirModel" ⟨"KettleChoirModel", "is", "(Ljava/lang/String;)Z"⟩ ⟨"KettleChoirModel", "is", "(Ljava/lang/String;)Z"⟩ ∈ kt_T := List.mem_filter.mpr ⟨kc_lw_privs_5 (⟨"KettleChoirModel", "is", "(Ljava/lang/String;)Z"⟩, 58) (List.mem_of_getElem? (i := 2) rfl), rfl⟩
set_option maxRecDepth 20000 in
theorem kw_697 : Cond.code ⟨"KettleChoirModel", "which", "([Ljava/lang/String;)I"⟩ prog_12_method_18_code 3 (some .int) ∈ kt_T := List.mem_filter.mpr ⟨kc_tables_1_6 _ (List.mem_of_getElem? (i := 166) rfl), rfl⟩
set_option maxRecDepth 20000 in
theorem kw_698 : Cond.code ⟨"KettleChoirModel", "isMarked", "(I)Z"⟩ prog_12_method_19_code 2 (some .boolean) ∈ kt_T := List.mem_filter.mpr ⟨kc_tables_1_6 _ (List.mem_of_getElem? (i := 185) rfl), rfl⟩
set_option maxRecDepth 20000 in
theorem kw_699 : Cond.methodLink "KettleChoirModel" 216 ⟨"KettleChoirModel", "isMarked", "(I)Z"⟩ ∈ kt_T := List.mem_filter.mpr ⟨kc_tables_1_6 _ (List.mem_of_getElem? (i := 182) rfl), rfl⟩
set_option maxRecDepth 20000 in
theorem kw_700 : Cond.instanceMethod ⟨"KettleChoirModel", "isMarked", "(I)Z"⟩ ∈ kt_T := List.mem_filter.mpr ⟨kc_tables_1_6 _ (List.mem_of_getElem? (i := 184) rfl), rfl⟩
set_option maxRecDepth 20000 in
theorem kw_701 : Cond.selects "KettleChoirModel" ⟨"KettleChoirModel", "isMarked", "(I)Z"⟩ ⟨"KettleChoirModel", "isMarked", "(I)Z"⟩ ∈ kt_T := List.mem_filter.mpr ⟨kc_lw_privs_5 (⟨"KettleChoirModel", "isMarked", "(I)Z"⟩, 58) (List.mem_of_getElem? (i := 5) rfl), rfl⟩
set_option maxRecDepth 20000 in
theorem kw_702 : Cond.methodLink "KettleChoirModel" 219 ⟨"KettleChoirModel", "wrong", "(I)V"⟩ ∈ kt_T := List.mem_filter.mpr ⟨kc_tables_1_6 _ (List.mem_of_getElem? (i := 174) rfl), rfl⟩
set_option maxRecDepth 20000 in
theorem kw_703 : Cond.instanceMethod ⟨"KettleChoirModel", "wrong", "(I)V"⟩ ∈ kt_T := List.mem_filter.mpr ⟨kc_tables_1_6 _ (List.mem_of_getElem? (i := 176) rfl), rfl⟩
set_option maxRecDepth 20000 in
theorem kw_704 : Cond.selects "KettleChoirModel" ⟨"KettleChoirModel", "wrong", "(I)V"⟩ ⟨"KettleChoirModel", "wrong", "(I)V"⟩ ∈ kt_T := List.mem_filter.mpr ⟨kc_lw_privs_5 (⟨"KettleChoirModel", "wrong", "(I)V"⟩, 58) (List.mem_of_getElem? (i := 3) rfl), rfl⟩
set_option maxRecDepth 20000 in
theorem kw_705 : Cond.methodLink "KettleChoirModel" 223 ⟨"KettleChoirModel", "stepOn", "()V"⟩ ∈ kt_T := List.mem_filter.mpr ⟨kc_tables_1_6 _ (List.mem_of_getElem? (i := 140) rfl), rfl⟩
set_option maxRecDepth 20000 in
theorem kw_706 : Cond.instanceMethod ⟨"KettleChoirModel", "stepOn", "()V"⟩ ∈ kt_T := List.mem_filter.mpr ⟨kc_tables_1_6 _ (List.mem_of_getElem? (i := 142) rfl), rfl⟩
set_option maxRecDepth 20000 in
theorem kw_707 : Cond.selects "KettleChoirModel" ⟨"KettleChoirModel", "stepOn", "()V"⟩ ⟨"KettleChoirModel", "stepOn", "()V"⟩ ∈ kt_T := List.mem_filter.mpr ⟨kc_lw_privs_4 (⟨"KettleChoirModel", "stepOn", "()V"⟩, 58) (List.mem_of_getElem? (i := 14) rfl), rfl⟩
set_option maxRecDepth 20000 in
theorem kw_708 : Cond.code ⟨"KettleChoirModel", "mark", "(I)V"⟩ prog_12_method_20_code 2 none ∈ kt_T := List.mem_filter.mpr ⟨kc_tables_1_6 _ (List.mem_of_getElem? (i := 222) rfl), rfl⟩
set_option maxRecDepth 20000 in
theorem kw_709 : Cond.code ⟨"KettleChoirModel", "numberNow", "(II)I"⟩ prog_12_method_21_code 3 (some .int) ∈ kt_T := List.mem_filter.mpr ⟨kc_tables_1_6 _ (List.mem_of_getElem? (i := 214) rfl), rfl⟩
set_option maxRecDepth 20000 in
theorem kw_710 : Cond.methodLink "KettleChoirModel" 226 ⟨"KettleChoirModel", "numberNow", "(II)I"⟩ ∈ kt_T := List.mem_filter.mpr ⟨kc_tables_1_6 _ (List.mem_of_getElem? (i := 211) rfl), rfl⟩
set_option maxRecDepth 20000 in
theorem kw_711 : Cond.instanceMethod ⟨"KettleChoirModel", "numberNow", "(II)I"⟩ ∈ kt_T := List.mem_filter.mpr ⟨kc_tables_1_6 _ (List.mem_of_getElem? (i := 213) rfl), rfl⟩
set_option maxRecDepth 20000 in
theorem kw_712 : Cond.selects "KettleChoirModel" ⟨"KettleChoirModel", "numberNow", "(II)I"⟩ ⟨"KettleChoirModel", "numberNow", "(II)I"⟩ ∈ kt_T := List.mem_filter.mpr ⟨kc_lw_privs_5 (⟨"KettleChoirModel", "numberNow", "(II)I"⟩, 58) (List.mem_of_getElem? (i := 12) rfl), rfl⟩
set_option maxRecDepth 20000 in
theorem kw_713 : Cond.code ⟨"KettleChoirModel", "readNumber", "(II)I"⟩ prog_12_method_22_code 4 (some .int) ∈ kt_T := List.mem_filter.mpr ⟨kc_tables_1_6 _ (List.mem_of_getElem? (i := 210) rfl), rfl⟩
set_option maxRecDepth 20000 in
theorem kw_714 : Cond.code ⟨"KettleChoirModel", "lay", "(I)V"⟩ prog_12_method_23_code 2 none ∈ kt_T := List.mem_filter.mpr ⟨kc_tables_1_6 _ (List.mem_of_getElem? (i := 218) rfl), rfl⟩
set_option maxRecDepth 20000 in
theorem kw_715 : Cond.methodLink "KettleChoirModel" 229 ⟨"KettleChoirModel", "readNumber", "(II)I"⟩ ∈ kt_T := List.mem_filter.mpr ⟨kc_tables_1_6 _ (List.mem_of_getElem? (i := 207) rfl), rfl⟩
set_option maxRecDepth 20000 in
theorem kw_716 : Cond.instanceMethod ⟨"KettleChoirModel", "readNumber", "(II)I"⟩ ∈ kt_T := List.mem_filter.mpr ⟨kc_tables_1_6 _ (List.mem_of_getElem? (i := 209) rfl), rfl⟩
set_option maxRecDepth 20000 in
theorem kw_717 : Cond.selects "KettleChoirModel" ⟨"KettleChoirModel", "readNumber", "(II)I"⟩ ⟨"KettleChoirModel", "readNumber", "(II)I"⟩ ∈ kt_T := List.mem_filter.mpr ⟨kc_lw_privs_5 (⟨"KettleChoirModel", "readNumber", "(II)I"⟩, 58) (List.mem_of_getElem? (i := 11) rfl), rfl⟩
set_option maxRecDepth 20000 in
theorem kw_718 : Cond.methodLink "KettleChoirModel" 232 ⟨"KettleChoirModel", "lay", "(I)V"⟩ ∈ kt_T := List.mem_filter.mpr ⟨kc_tables_1_6 _ (List.mem_of_getElem? (i := 215) rfl), rfl⟩
set_option maxRecDepth 20000 in
theorem kw_719 : Cond.instanceMethod ⟨"KettleChoirModel", "lay", "(I)V"⟩ ∈ kt_T := List.mem_filter.mpr ⟨kc_tables_1_6 _ (List.mem_of_getElem? (i := 217) rfl), rfl⟩
set_option maxRecDepth 20000 in
theorem kw_720 : Cond.selects "KettleChoirModel" ⟨"KettleChoirModel", "lay", "(I)V"⟩ ⟨"KettleChoirModel", "lay", "(I)V"⟩ ∈ kt_T := List.mem_filter.mpr ⟨kc_lw_privs_5 (⟨"KettleChoirModel", "lay", "(I)V"⟩, 58) (List.mem_of_getElem? (i := 13) rfl), rfl⟩
set_option maxRecDepth 20000 in
theorem kw_721 : Cond.methodLink "KettleChoirModel" 235 ⟨"KettleChoirModel", "which", "([Ljava/lang/String;)I"⟩ ∈ kt_T := List.mem_filter.mpr ⟨kc_tables_1_6 _ (List.mem_of_getElem? (i := 163) rfl), rfl⟩
set_option maxRecDepth 20000 in
theorem kw_722 : Cond.instanceMethod ⟨"KettleChoirModel", "which", "([Ljava/lang/String;)I"⟩ ∈ kt_T := List.mem_filter.mpr ⟨kc_tables_1_6 _ (List.mem_of_getElem? (i := 165) rfl), rfl⟩
set_option maxRecDepth 20000 in
theorem kw_723 : Cond.selects "KettleChoirModel" ⟨"KettleChoirModel", "which", "([Ljava/lang/String;)I"⟩ ⟨"KettleChoirModel", "which", "([Ljava/lang/String;)I"⟩ ∈ kt_T := List.mem_filter.mpr ⟨kc_lw_privs_5 (⟨"KettleChoirModel", "which", "([Ljava/lang/String;)I"⟩, 58) (List.mem_of_getElem? (i := 1) rfl), rfl⟩
set_option maxRecDepth 20000 in
theorem kw_724 : Cond.methodLink "KettleChoirModel" 239 ⟨"KettleChoirModel", "mark", "(I)V"⟩ ∈ kt_T := List.mem_filter.mpr ⟨kc_tables_1_6 _ (List.mem_of_getElem? (i := 219) rfl), rfl⟩
set_option maxRecDepth 20000 in
theorem kw_725 : Cond.instanceMethod ⟨"KettleChoirModel", "mark", "(I)V"⟩ ∈ kt_T := List.mem_filter.mpr ⟨kc_tables_1_6 _ (List.mem_of_getElem? (i := 221) rfl), rfl⟩
set_option maxRecDepth 20000 in
theorem kw_726 : Cond.selects "KettleChoirModel" ⟨"KettleChoirModel", "mark", "(I)V"⟩ ⟨"KettleChoirModel", "mark", "(I)V"⟩ ∈ kt_T := List.mem_filter.mpr ⟨kc_lw_privs_5 (⟨"KettleChoirModel", "mark", "(I)V"⟩, 58) (List.mem_of_getElem? (i := 14) rfl), rfl⟩
set_option maxRecDepth 20000 in
theorem kw_727 : Cond.methodLink "KettleChoirModel" 242 ⟨"KettleChoirModel", "readExpression", "(I)V"⟩ ∈ kt_T := List.mem_filter.mpr ⟨kc_tables_1_6 _ (List.mem_of_getElem? (i := 178) rfl), rfl⟩
set_option maxRecDepth 20000 in
theorem kw_728 : Cond.instanceMethod ⟨"KettleChoirModel", "readExpression", "(I)V"⟩ ∈ kt_T := List.mem_filter.mpr ⟨kc_tables_1_6 _ (List.mem_of_getElem? (i := 180) rfl), rfl⟩
set_option maxRecDepth 20000 in
theorem kw_729 : Cond.selects "KettleChoirModel" ⟨"KettleChoirModel", "readExpression", "(I)V"⟩ ⟨"KettleChoirModel", "readExpression", "(I)V"⟩ ∈ kt_T := List.mem_filter.mpr ⟨kc_lw_privs_5 (⟨"KettleChoirModel", "readExpression", "(I)V"⟩, 58) (List.mem_of_getElem? (i := 4) rfl), rfl⟩
set_option maxRecDepth 20000 in
theorem kw_730 : Cond.code ⟨"KettleChoirModel", "readPart", "(I)V"⟩ prog_12_method_24_code 3 none ∈ kt_T := List.mem_filter.mpr ⟨kc_tables_1_6 _ (List.mem_of_getElem? (i := 206) rfl), rfl⟩
set_option maxRecDepth 20000 in
theorem kw_731 : Cond.methodLink "KettleChoirModel" 245 ⟨"KettleChoirModel", "readPart", "(I)V"⟩ ∈ kt_T := List.mem_filter.mpr ⟨kc_tables_1_6 _ (List.mem_of_getElem? (i := 203) rfl), rfl⟩
set_option maxRecDepth 20000 in
theorem kw_732 : Cond.instanceMethod ⟨"KettleChoirModel", "readPart", "(I)V"⟩ ∈ kt_T := List.mem_filter.mpr ⟨kc_tables_1_6 _ (List.mem_of_getElem? (i := 205) rfl), rfl⟩
set_option maxRecDepth 20000 in
theorem kw_733 : Cond.selects "KettleChoirModel" ⟨"KettleChoirModel", "readPart", "(I)V"⟩ ⟨"KettleChoirModel", "readPart", "(I)V"⟩ ∈ kt_T := List.mem_filter.mpr ⟨kc_lw_privs_5 (⟨"KettleChoirModel", "readPart", "(I)V"⟩, 58) (List.mem_of_getElem? (i := 10) rfl), rfl⟩
set_option maxRecDepth 20000 in
theorem kw_734 : Cond.code ⟨"KettleChoirModel", "readProduct", "(I)V"⟩ prog_12_method_25_code 3 none ∈ kt_T := List.mem_filter.mpr ⟨kc_tables_1_6 _ (List.mem_of_getElem? (i := 202) rfl), rfl⟩
set_option maxRecDepth 20000 in
theorem kw_735 : Cond.methodLink "KettleChoirModel" 248 ⟨"KettleChoirModel", "readProduct", "(I)V"⟩ ∈ kt_T := List.mem_filter.mpr ⟨kc_tables_1_6 _ (List.mem_of_getElem? (i := 199) rfl), rfl⟩
set_option maxRecDepth 20000 in
theorem kw_736 : Cond.instanceMethod ⟨"KettleChoirModel", "readProduct", "(I)V"⟩ ∈ kt_T := List.mem_filter.mpr ⟨kc_tables_1_6 _ (List.mem_of_getElem? (i := 201) rfl), rfl⟩
set_option maxRecDepth 20000 in
theorem kw_737 : Cond.selects "KettleChoirModel" ⟨"KettleChoirModel", "readProduct", "(I)V"⟩ ⟨"KettleChoirModel", "readProduct", "(I)V"⟩ ∈ kt_T := List.mem_filter.mpr ⟨kc_lw_privs_5 (⟨"KettleChoirModel", "readProduct", "(I)V"⟩, 58) (List.mem_of_getElem? (i := 9) rfl), rfl⟩
set_option maxRecDepth 20000 in
theorem kw_738 : Cond.code ⟨"KettleChoirModel", "readSum", "(I)V"⟩ prog_12_method_26_code 3 none ∈ kt_T := List.mem_filter.mpr ⟨kc_tables_1_6 _ (List.mem_of_getElem? (i := 198) rfl), rfl⟩
set_option maxRecDepth 20000 in
theorem kw_739 : Cond.methodLink "KettleChoirModel" 253 ⟨"KettleChoirModel", "readSum", "(I)V"⟩ ∈ kt_T := List.mem_filter.mpr ⟨kc_tables_1_6 _ (List.mem_of_getElem? (i := 195) rfl), rfl⟩
set_option maxRecDepth 20000 in
theorem kw_740 : Cond.instanceMethod ⟨"KettleChoirModel", "readSum", "(I)V"⟩ ∈ kt_T := List.mem_filter.mpr ⟨kc_tables_1_6 _ (List.mem_of_getElem? (i := 197) rfl), rfl⟩
set_option maxRecDepth 20000 in
theorem kw_741 : Cond.selects "KettleChoirModel" ⟨"KettleChoirModel", "readSum", "(I)V"⟩ ⟨"KettleChoirModel", "readSum", "(I)V"⟩ ∈ kt_T := List.mem_filter.mpr ⟨kc_lw_privs_5 (⟨"KettleChoirModel", "readSum", "(I)V"⟩, 58) (List.mem_of_getElem? (i := 8) rfl), rfl⟩
set_option maxRecDepth 20000 in
theorem kw_742 : Cond.code ⟨"KettleChoirModel", "readNot", "(I)V"⟩ prog_12_method_27_code 4 none ∈ kt_T := List.mem_filter.mpr ⟨kc_tables_1_6 _ (List.mem_of_getElem? (i := 193) rfl), rfl⟩
set_option maxRecDepth 20000 in
theorem kw_743 : Cond.methodLink "KettleChoirModel" 256 ⟨"KettleChoirModel", "readNot", "(I)V"⟩ ∈ kt_T := List.mem_filter.mpr ⟨kc_tables_1_6 _ (List.mem_of_getElem? (i := 190) rfl), rfl⟩
set_option maxRecDepth 20000 in
theorem kw_744 : Cond.instanceMethod ⟨"KettleChoirModel", "readNot", "(I)V"⟩ ∈ kt_T := List.mem_filter.mpr ⟨kc_tables_1_6 _ (List.mem_of_getElem? (i := 192) rfl), rfl⟩
set_option maxRecDepth 20000 in
theorem kw_745 : Cond.selects "KettleChoirModel" ⟨"KettleChoirModel", "readNot", "(I)V"⟩ ⟨"KettleChoirModel", "readNot", "(I)V"⟩ ∈ kt_T := List.mem_filter.mpr ⟨kc_lw_privs_5 (⟨"KettleChoirModel", "readNot", "(I)V"⟩, 58) (List.mem_of_getElem? (i := 7) rfl), rfl⟩
set_option maxRecDepth 20000 in
theorem kw_746 : Cond.code ⟨"KettleChoirModel", "readAnd", "(I)V"⟩ prog_12_method_28_code 2 none ∈ kt_T := List.mem_filter.mpr ⟨kc_tables_1_6 _ (List.mem_of_getElem? (i := 189) rfl), rfl⟩
set_option maxRecDepth 20000 in
theorem kw_747 : Cond.methodLink "KettleChoirModel" 261 ⟨"KettleChoirModel", "readAnd", "(I)V"⟩ ∈ kt_T := List.mem_filter.mpr ⟨kc_tables_1_6 _ (List.mem_of_getElem? (i := 186) rfl), rfl⟩
set_option maxRecDepth 20000 in
theorem kw_748 : Cond.instanceMethod ⟨"KettleChoirModel", "readAnd", "(I)V"⟩ ∈ kt_T := List.mem_filter.mpr ⟨kc_tables_1_6 _ (List.mem_of_getElem? (i := 188) rfl), rfl⟩
set_option maxRecDepth 20000 in
theorem kw_749 : Cond.selects "KettleChoirModel" ⟨"KettleChoirModel", "readAnd", "(I)V"⟩ ⟨"KettleChoirModel", "readAnd", "(I)V"⟩ ∈ kt_T := List.mem_filter.mpr ⟨kc_lw_privs_5 (⟨"KettleChoirModel", "readAnd", "(I)V"⟩, 58) (List.mem_of_getElem? (i := 6) rfl), rfl⟩
set_option maxRecDepth 20000 in
theorem kw_750 : Cond.code ⟨"KettleChoirModel", "readExpression", "(I)V"⟩ prog_12_method_29_code 3 none ∈ kt_T := List.mem_filter.mpr ⟨kc_tables_1_6 _ (List.mem_of_getElem? (i := 181) rfl), rfl⟩
set_option maxRecDepth 20000 in
theorem kw_751 : Cond.code ⟨"KettleChoirModel", "another", "(II)Z"⟩ prog_12_method_30_code 3 (some .boolean) ∈ kt_T := List.mem_filter.mpr ⟨kc_tables_1_6 _ (List.mem_of_getElem? (i := 232) rfl), rfl⟩
set_option maxRecDepth 20000 in
theorem kw_752 : Cond.methodLink "KettleChoirModel" 266 ⟨"KettleChoirModel", "another", "(II)Z"⟩ ∈ kt_T := List.mem_filter.mpr ⟨kc_tables_1_6 _ (List.mem_of_getElem? (i := 229) rfl), rfl⟩
set_option maxRecDepth 20000 in
theorem kw_753 : Cond.instanceMethod ⟨"KettleChoirModel", "another", "(II)Z"⟩ ∈ kt_T := List.mem_filter.mpr ⟨kc_tables_1_6 _ (List.mem_of_getElem? (i := 231) rfl), rfl⟩
set_option maxRecDepth 20000 in
theorem kw_754 : Cond.selects "KettleChoirModel" ⟨"KettleChoirModel", "another", "(II)Z"⟩ ⟨"KettleChoirModel", "another", "(II)Z"⟩ ∈ kt_T := List.mem_filter.mpr ⟨kc_lw_privs_6 (⟨"KettleChoirModel", "another", "(II)Z"⟩, 58) (List.mem_of_getElem? (i := 0) rfl), rfl⟩
set_option maxRecDepth 20000 in
theorem kw_755 : Cond.code ⟨"KettleChoirModel", "readKettle", "(I)V"⟩ prog_12_method_31_code 3 none ∈ kt_T := List.mem_filter.mpr ⟨kc_tables_1_6 _ (List.mem_of_getElem? (i := 228) rfl), rfl⟩
set_option maxRecDepth 20000 in
theorem kw_756 : Cond.code ⟨"KettleChoirModel", "readStove", "()V"⟩ prog_12_method_32_code 1 none ∈ kt_T := List.mem_filter.mpr ⟨kc_tables_1_6 _ (List.mem_of_getElem? (i := 237) rfl), rfl⟩
set_option maxRecDepth 20000 in
theorem kw_757 : Cond.code ⟨"KettleChoirModel", "readDish", "()V"⟩ prog_12_method_33_code 5 none ∈ kt_T := List.mem_filter.mpr ⟨kc_tables_1_7 _ (List.mem_of_getElem? (i := 2) rfl), rfl⟩
set_option maxRecDepth 20000 in
theorem kw_758 : Cond.methodLink "KettleChoirModel" 272 ⟨"KettleChoirModel", "readKettle", "(I)V"⟩ ∈ kt_T := List.mem_filter.mpr ⟨kc_tables_1_6 _ (List.mem_of_getElem? (i := 225) rfl), rfl⟩
set_option maxRecDepth 20000 in
theorem kw_759 : Cond.instanceMethod ⟨"KettleChoirModel", "readKettle", "(I)V"⟩ ∈ kt_T := List.mem_filter.mpr ⟨kc_tables_1_6 _ (List.mem_of_getElem? (i := 227) rfl), rfl⟩
set_option maxRecDepth 20000 in
theorem kw_760 : Cond.selects "KettleChoirModel" ⟨"KettleChoirModel", "readKettle", "(I)V"⟩ ⟨"KettleChoirModel", "readKettle", "(I)V"⟩ ∈ kt_T := List.mem_filter.mpr ⟨kc_lw_privs_5 (⟨"KettleChoirModel", "readKettle", "(I)V"⟩, 58) (List.mem_of_getElem? (i := 15) rfl), rfl⟩
set_option maxRecDepth 20000 in
theorem kw_761 : Cond.methodLink "KettleChoirModel" 277 ⟨"KettleChoirModel", "readStove", "()V"⟩ ∈ kt_T := List.mem_filter.mpr ⟨kc_tables_1_6 _ (List.mem_of_getElem? (i := 234) rfl), rfl⟩
set_option maxRecDepth 20000 in
theorem kw_762 : Cond.instanceMethod ⟨"KettleChoirModel", "readStove", "()V"⟩ ∈ kt_T := List.mem_filter.mpr ⟨kc_tables_1_6 _ (List.mem_of_getElem? (i := 236) rfl), rfl⟩
set_option maxRecDepth 20000 in
theorem kw_763 : Cond.selects "KettleChoirModel" ⟨"KettleChoirModel", "readStove", "()V"⟩ ⟨"KettleChoirModel", "readStove", "()V"⟩ ∈ kt_T := List.mem_filter.mpr ⟨kc_lw_privs_6 (⟨"KettleChoirModel", "readStove", "()V"⟩, 58) (List.mem_of_getElem? (i := 1) rfl), rfl⟩
set_option maxRecDepth 20000 in
theorem kw_764 : Cond.methodLink "KettleChoirModel" 282 ⟨"KettleChoirModel", "readDish", "()V"⟩ ∈ kt_T := List.mem_filter.mpr ⟨kc_tables_1_6 _ (List.mem_of_getElem? (i := 239) rfl), rfl⟩
set_option maxRecDepth 20000 in
theorem kw_765 : Cond.instanceMethod ⟨"KettleChoirModel", "readDish", "()V"⟩ ∈ kt_T := List.mem_filter.mpr ⟨kc_tables_1_7 _ (List.mem_of_getElem? (i := 1) rfl), rfl⟩
set_option maxRecDepth 20000 in
theorem kw_766 : Cond.selects "KettleChoirModel" ⟨"KettleChoirModel", "readDish", "()V"⟩ ⟨"KettleChoirModel", "readDish", "()V"⟩ ∈ kt_T := List.mem_filter.mpr ⟨kc_lw_privs_6 (⟨"KettleChoirModel", "readDish", "()V"⟩, 58) (List.mem_of_getElem? (i := 2) rfl), rfl⟩
set_option maxRecDepth 20000 in
theorem kw_767 : Cond.code ⟨"KettleChoirModel", "readLine", "(I)I"⟩ prog_12_method_34_code 3 (some .int) ∈ kt_T := List.mem_filter.mpr ⟨kc_tables_1_6 _ (List.mem_of_getElem? (i := 162) rfl), rfl⟩
set_option maxRecDepth 20000 in
theorem kw_768 : Cond.methodLink "KettleChoirModel" 285 ⟨"KettleChoirModel", "fail", "(I)I"⟩ ∈ kt_T := List.mem_filter.mpr ⟨kc_tables_1_6 _ (List.mem_of_getElem? (i := 136) rfl), rfl⟩
set_option maxRecDepth 20000 in
theorem kw_769 : Cond.instanceMethod ⟨"KettleChoirModel", "fail", "(I)I"⟩ ∈ kt_T := List.mem_filter.mpr ⟨kc_tables_1_6 _ (List.mem_of_getElem? (i := 138) rfl), rfl⟩
set_option maxRecDepth 20000 in
theorem kw_770 : Cond.selects "KettleChoirModel" ⟨"KettleChoirModel", "fail", "(I)I"⟩ ⟨"KettleChoirModel", "fail", "(I)I"⟩ ∈ kt_T := List.mem_filter.mpr ⟨kc_lw_privs_4 (⟨"KettleChoirModel", "fail", "(I)I"⟩, 58) (List.mem_of_getElem? (i := 13) rfl), rfl⟩
set_option maxRecDepth 20000 in
theorem kw_771 : Cond.methodLink "KettleChoirModel" 288 ⟨"KettleChoirModel", "readLine", "(I)I"⟩ ∈ kt_T := List.mem_filter.mpr ⟨kc_tables_1_6 _ (List.mem_of_getElem? (i := 159) rfl), rfl⟩
set_option maxRecDepth 20000 in
theorem kw_772 : Cond.instanceMethod ⟨"KettleChoirModel", "readLine", "(I)I"⟩ ∈ kt_T := List.mem_filter.mpr ⟨kc_tables_1_6 _ (List.mem_of_getElem? (i := 161) rfl), rfl⟩
set_option maxRecDepth 20000 in
theorem kw_773 : Cond.selects "KettleChoirModel" ⟨"KettleChoirModel", "readLine", "(I)I"⟩ ⟨"KettleChoirModel", "readLine", "(I)I"⟩ ∈ kt_T := List.mem_filter.mpr ⟨kc_lw_privs_5 (⟨"KettleChoirModel", "readLine", "(I)I"⟩, 58) (List.mem_of_getElem? (i := 0) rfl), rfl⟩
set_option maxRecDepth 20000 in
theorem kw_774 : Cond.methodLink "KettleChoirModel" 291 ⟨"KettleChoirModel", "takeOver", "()V"⟩ ∈ kt_T := List.mem_filter.mpr ⟨kc_tables_1_7 _ (List.mem_of_getElem? (i := 3) rfl), rfl⟩
set_option maxRecDepth 20000 in
theorem kw_775 : Cond.instanceMethod ⟨"KettleChoirModel", "takeOver", "()V"⟩ ∈ kt_T := List.mem_filter.mpr ⟨kc_tables_1_7 _ (List.mem_of_getElem? (i := 5) rfl), rfl⟩
set_option maxRecDepth 20000 in
theorem kw_776 : Cond.selects "KettleChoirModel" ⟨"KettleChoirModel", "takeOver", "()V"⟩ ⟨"KettleChoirModel", "takeOver", "()V"⟩ ∈ kt_T := List.mem_filter.mpr ⟨kc_lw_privs_6 (⟨"KettleChoirModel", "takeOver", "()V"⟩, 58) (List.mem_of_getElem? (i := 3) rfl), rfl⟩
set_option maxRecDepth 20000 in
theorem kw_777 : Cond.code ⟨"KettleChoirModel", "kitchen", "(I)I"⟩ prog_12_method_35_code 3 (some .int) ∈ kt_T := List.mem_filter.mpr ⟨kc_tables_1_6 _ (List.mem_of_getElem? (i := 135) rfl), rfl⟩
set_option maxRecDepth 20000 in
theorem kw_778 : Cond.code ⟨"KettleChoirModel", "takeHalf", "([I)V"⟩ prog_12_method_36_code 2 none ∈ kt_T := List.mem_filter.mpr ⟨kc_tables_1_7 _ (List.mem_of_getElem? (i := 9) rfl), rfl⟩
set_option maxRecDepth 20000 in
theorem kw_779 : Cond.methodLink "KettleChoirModel" 294 ⟨"KettleChoirModel", "takeHalf", "([I)V"⟩ ∈ kt_T := List.mem_filter.mpr ⟨kc_tables_1_7 _ (List.mem_of_getElem? (i := 7) rfl), rfl⟩
set_option maxRecDepth 20000 in
theorem kw_780 : Cond.static ⟨"KettleChoirModel", "takeHalf", "([I)V"⟩ ∈ kt_T := List.mem_filter.mpr ⟨kc_tables_1_7 _ (List.mem_of_getElem? (i := 8) rfl), rfl⟩
set_option maxRecDepth 20000 in
theorem kw_781 : Cond.fieldLink "KettleChoirModel" 298 "KettleChoirModel" "minute" "I" ∈ kt_T := List.mem_filter.mpr ⟨kc_tables_1_5 _ (List.mem_of_getElem? (i := 222) rfl), rfl⟩
set_option maxRecDepth 20000 in
theorem kw_782 : Cond.fieldLink "KettleChoirModel" 301 "KettleChoirModel" "acts" "I" ∈ kt_T := List.mem_filter.mpr ⟨kc_tables_1_5 _ (List.mem_of_getElem? (i := 223) rfl), rfl⟩
set_option maxRecDepth 20000 in
theorem kw_783 : Cond.fieldLink "KettleChoirModel" 304 "KettleChoirModel" "heard" "I" ∈ kt_T := List.mem_filter.mpr ⟨kc_tables_1_5 _ (List.mem_of_getElem? (i := 224) rfl), rfl⟩
set_option maxRecDepth 20000 in
theorem kw_784 : Cond.fieldLink "KettleChoirModel" 307 "KettleChoirModel" "hasImage" "Z" ∈ kt_T := List.mem_filter.mpr ⟨kc_tables_1_5 _ (List.mem_of_getElem? (i := 239) rfl), rfl⟩
set_option maxRecDepth 20000 in
theorem kw_785 : Cond.code ⟨"KettleChoirModel", "takeOver", "()V"⟩ prog_12_method_37_code 2 none ∈ kt_T := List.mem_filter.mpr ⟨kc_tables_1_7 _ (List.mem_of_getElem? (i := 6) rfl), rfl⟩
set_option maxRecDepth 20000 in
theorem kw_786 : Cond.code ⟨"KettleChoirModel", "fault", "()I"⟩ prog_12_method_38_code 1 (some .int) ∈ kt_T := List.mem_filter.mpr ⟨kc_tables_1_7 _ (List.mem_of_getElem? (i := 13) rfl), rfl⟩
set_option maxRecDepth 20000 in
theorem kw_787 : Cond.code ⟨"KettleChoirModel", "pack", "([II)V"⟩ prog_12_method_39_code 4 none ∈ kt_T := List.mem_filter.mpr ⟨kc_tables_1_7 _ (List.mem_of_getElem? (i := 84) rfl), rfl⟩
set_option maxRecDepth 20000 in
theorem kw_788 : Cond.code ⟨"KettleChoirModel", "unpack", "([II)V"⟩ prog_12_method_40_code 4 none ∈ kt_T := List.mem_filter.mpr ⟨kc_tables_1_7 _ (List.mem_of_getElem? (i := 163) rfl), rfl⟩
set_option maxRecDepth 20000 in
theorem kw_789 : Cond.code ⟨"KettleChoirModel", "reckon", "(III)I"⟩ prog_12_method_41_code 3 (some .int) ∈ kt_T := List.mem_filter.mpr ⟨kc_tables_1_7 _ (List.mem_of_getElem? (i := 135) rfl), rfl⟩
set_option maxRecDepth 20000 in
theorem kw_790 : Cond.methodLink "KettleChoirModel" 311 ⟨"KettleChoirModel", "reckon", "(III)I"⟩ ∈ kt_T := List.mem_filter.mpr ⟨kc_tables_1_7 _ (List.mem_of_getElem? (i := 133) rfl), rfl⟩
set_option maxRecDepth 20000 in
theorem kw_791 : Cond.static ⟨"KettleChoirModel", "reckon", "(III)I"⟩ ∈ kt_T := List.mem_filter.mpr ⟨kc_tables_1_7 _ (List.mem_of_getElem? (i := 134) rfl), rfl⟩
set_option maxRecDepth 20000 in
theorem kw_792 : Cond.code ⟨"KettleChoirModel", "valueNow", "()I"⟩ prog_12_method_42_code 4 (some .int) ∈ kt_T := List.mem_filter.mpr ⟨kc_tables_1_7 _ (List.mem_of_getElem? (i := 132) rfl), rfl⟩
set_option maxRecDepth 20000 in
theorem kw_793 : Cond.methodLink "KettleChoirModel" 315 ⟨"java/lang/Math", "max", "(II)I"⟩ ∈ kt_T := List.mem_filter.mpr ⟨kc_tables_1_7 _ (List.mem_of_getElem? (i := 93) rfl), rfl⟩
set_option maxRecDepth 20000 in
theorem kw_794 : Cond.code ⟨"KettleChoirModel", "hotter", "(II)I"⟩ prog_12_method_43_code 3 (some .int) ∈ kt_T := List.mem_filter.mpr ⟨kc_tables_1_7 _ (List.mem_of_getElem? (i := 97) rfl), rfl⟩
set_option maxRecDepth 20000 in
theorem kw_795 : Cond.code ⟨"KettleChoirModel", "colder", "(I)I"⟩ prog_12_method_44_code 2 (some .int) ∈ kt_T := List.mem_filter.mpr ⟨kc_tables_1_7 _ (List.mem_of_getElem? (i := 92) rfl), rfl⟩
set_option maxRecDepth 20000 in
theorem kw_796 : Cond.code ⟨"KettleChoirModel", "noteBy", "(III)I"⟩ prog_12_method_45_code 5 (some .int) ∈ kt_T := List.mem_filter.mpr ⟨kc_tables_1_7 _ (List.mem_of_getElem? (i := 109) rfl), rfl⟩
set_option maxRecDepth 20000 in
theorem kw_797 : Cond.code ⟨"KettleChoirModel", "canSing", "(I)Z"⟩ prog_12_method_46_code 2 (some .boolean) ∈ kt_T := List.mem_filter.mpr ⟨kc_tables_1_7 _ (List.mem_of_getElem? (i := 105) rfl), rfl⟩
set_option maxRecDepth 20000 in
theorem kw_798 : Cond.methodLink "KettleChoirModel" 318 ⟨"KettleChoirModel", "canSing", "(I)Z"⟩ ∈ kt_T := List.mem_filter.mpr ⟨kc_tables_1_7 _ (List.mem_of_getElem? (i := 102) rfl), rfl⟩
set_option maxRecDepth 20000 in
theorem kw_799 : Cond.instanceMethod ⟨"KettleChoirModel", "canSing", "(I)Z"⟩ ∈ kt_T := List.mem_filter.mpr ⟨kc_tables_1_7 _ (List.mem_of_getElem? (i := 104) rfl), rfl⟩
set_option maxRecDepth 20000 in
theorem kw_800 : Cond.selects "KettleChoirModel" ⟨"KettleChoirModel", "canSing", "(I)Z"⟩ ⟨"KettleChoirModel", "canSing", "(I)Z"⟩ ∈ kt_T := List.mem_filter.mpr ⟨kc_lw_privs_7 (⟨"KettleChoirModel", "canSing", "(I)Z"⟩, 58) (List.mem_of_getElem? (i := 3) rfl), rfl⟩
set_option maxRecDepth 20000 in
theorem kw_801 : Cond.methodLink "KettleChoirModel" 321 ⟨"KettleChoirModel", "noteBy", "(III)I"⟩ ∈ kt_T := List.mem_filter.mpr ⟨kc_tables_1_7 _ (List.mem_of_getElem? (i := 106) rfl), rfl⟩
set_option maxRecDepth 20000 in
theorem kw_802 : Cond.instanceMethod ⟨"KettleChoirModel", "noteBy", "(III)I"⟩ ∈ kt_T := List.mem_filter.mpr ⟨kc_tables_1_7 _ (List.mem_of_getElem? (i := 108) rfl), rfl⟩
set_option maxRecDepth 20000 in
theorem kw_803 : Cond.selects "KettleChoirModel" ⟨"KettleChoirModel", "noteBy", "(III)I"⟩ ⟨"KettleChoirModel", "noteBy", "(III)I"⟩ ∈ kt_T := List.mem_filter.mpr ⟨kc_lw_privs_7 (⟨"KettleChoirModel", "noteBy", "(III)I"⟩, 58) (List.mem_of_getElem? (i := 4) rfl), rfl⟩
set_option maxRecDepth 20000 in
theorem kw_804 : Cond.code ⟨"KettleChoirModel", "sing", "(I)V"⟩ prog_12_method_47_code 2 none ∈ kt_T := List.mem_filter.mpr ⟨kc_tables_1_7 _ (List.mem_of_getElem? (i := 101) rfl), rfl⟩
set_option maxRecDepth 20000 in
theorem kw_805 : Cond.code ⟨"KettleChoirModel", "lose", "(I)V"⟩ prog_12_method_48_code 2 none ∈ kt_T := List.mem_filter.mpr ⟨kc_tables_1_7 _ (List.mem_of_getElem? (i := 121) rfl), rfl⟩
set_option maxRecDepth 20000 in
theorem kw_806 : Cond.code ⟨"KettleChoirModel", "isSung", "(I)Z"⟩ prog_12_method_49_code 3 (some .boolean) ∈ kt_T := List.mem_filter.mpr ⟨kc_tables_1_7 _ (List.mem_of_getElem? (i := 117) rfl), rfl⟩
set_option maxRecDepth 20000 in
theorem kw_807 : Cond.methodLink "KettleChoirModel" 324 ⟨"KettleChoirModel", "isSung", "(I)Z"⟩ ∈ kt_T := List.mem_filter.mpr ⟨kc_tables_1_7 _ (List.mem_of_getElem? (i := 114) rfl), rfl⟩
set_option maxRecDepth 20000 in
theorem kw_808 : Cond.instanceMethod ⟨"KettleChoirModel", "isSung", "(I)Z"⟩ ∈ kt_T := List.mem_filter.mpr ⟨kc_tables_1_7 _ (List.mem_of_getElem? (i := 116) rfl), rfl⟩
set_option maxRecDepth 20000 in
theorem kw_809 : Cond.selects "KettleChoirModel" ⟨"KettleChoirModel", "isSung", "(I)Z"⟩ ⟨"KettleChoirModel", "isSung", "(I)Z"⟩ ∈ kt_T := List.mem_filter.mpr ⟨kc_lw_privs_7 (⟨"KettleChoirModel", "isSung", "(I)Z"⟩, 58) (List.mem_of_getElem? (i := 6) rfl), rfl⟩
set_option maxRecDepth 20000 in
theorem kw_810 : Cond.code ⟨"KettleChoirModel", "isChord", "(II)Z"⟩ prog_12_method_50_code 5 (some .boolean) ∈ kt_T := List.mem_filter.mpr ⟨kc_tables_1_7 _ (List.mem_of_getElem? (i := 113) rfl), rfl⟩
set_option maxRecDepth 20000 in
theorem kw_811 : Cond.code ⟨"KettleChoirModel", "singers", "()I"⟩ prog_12_method_51_code 3 (some .int) ∈ kt_T := List.mem_filter.mpr ⟨kc_tables_1_7 _ (List.mem_of_getElem? (i := 21) rfl), rfl⟩
set_option maxRecDepth 20000 in
theorem kw_812 : Cond.code ⟨"KettleChoirModel", "bitsOf", "(I)I"⟩ prog_12_method_52_code 3 (some .int) ∈ kt_T := List.mem_filter.mpr ⟨kc_tables_1_7 _ (List.mem_of_getElem? (i := 128) rfl), rfl⟩
set_option maxRecDepth 20000 in
theorem kw_813 : Cond.methodLink "KettleChoirModel" 327 ⟨"KettleChoirModel", "singers", "()I"⟩ ∈ kt_T := List.mem_filter.mpr ⟨kc_tables_1_7 _ (List.mem_of_getElem? (i := 18) rfl), rfl⟩
set_option maxRecDepth 20000 in
theorem kw_814 : Cond.instanceMethod ⟨"KettleChoirModel", "singers", "()I"⟩ ∈ kt_T := List.mem_filter.mpr ⟨kc_tables_1_7 _ (List.mem_of_getElem? (i := 20) rfl), rfl⟩
set_option maxRecDepth 20000 in
theorem kw_815 : Cond.selects "KettleChoirModel" ⟨"KettleChoirModel", "singers", "()I"⟩ ⟨"KettleChoirModel", "singers", "()I"⟩ ∈ kt_T := List.mem_filter.mpr ⟨kc_lw_privs_6 (⟨"KettleChoirModel", "singers", "()I"⟩, 58) (List.mem_of_getElem? (i := 4) rfl), rfl⟩
set_option maxRecDepth 20000 in
theorem kw_816 : Cond.methodLink "KettleChoirModel" 329 ⟨"KettleChoirModel", "bitsOf", "(I)I"⟩ ∈ kt_T := List.mem_filter.mpr ⟨kc_tables_1_7 _ (List.mem_of_getElem? (i := 126) rfl), rfl⟩
set_option maxRecDepth 20000 in
theorem kw_817 : Cond.static ⟨"KettleChoirModel", "bitsOf", "(I)I"⟩ ∈ kt_T := List.mem_filter.mpr ⟨kc_tables_1_7 _ (List.mem_of_getElem? (i := 127) rfl), rfl⟩
set_option maxRecDepth 20000 in
theorem kw_818 : Cond.methodLink "KettleChoirModel" 332 ⟨"KettleChoirModel", "valueNow", "()I"⟩ ∈ kt_T := List.mem_filter.mpr ⟨kc_tables_1_7 _ (List.mem_of_getElem? (i := 129) rfl), rfl⟩
set_option maxRecDepth 20000 in
theorem kw_819 : Cond.instanceMethod ⟨"KettleChoirModel", "valueNow", "()I"⟩ ∈ kt_T := List.mem_filter.mpr ⟨kc_tables_1_7 _ (List.mem_of_getElem? (i := 131) rfl), rfl⟩
set_option maxRecDepth 20000 in
theorem kw_820 : Cond.selects "KettleChoirModel" ⟨"KettleChoirModel", "valueNow", "()I"⟩ ⟨"KettleChoirModel", "valueNow", "()I"⟩ ∈ kt_T := List.mem_filter.mpr ⟨kc_lw_privs_7 (⟨"KettleChoirModel", "valueNow", "()I"⟩, 58) (List.mem_of_getElem? (i := 9) rfl), rfl⟩
set_option maxRecDepth 20000 in
theorem kw_821 : Cond.code ⟨"KettleChoirModel", "isLifted", "(I)Z"⟩ prog_12_method_53_code 2 (some .boolean) ∈ kt_T := List.mem_filter.mpr ⟨kc_tables_1_7 _ (List.mem_of_getElem? (i := 125) rfl), rfl⟩
set_option maxRecDepth 20000 in
theorem kw_822 : Cond.methodLink "KettleChoirModel" 335 ⟨"KettleChoirModel", "colder", "(I)I"⟩ ∈ kt_T := List.mem_filter.mpr ⟨kc_tables_1_7 _ (List.mem_of_getElem? (i := 89) rfl), rfl⟩
set_option maxRecDepth 20000 in
theorem kw_823 : Cond.instanceMethod ⟨"KettleChoirModel", "colder", "(I)I"⟩ ∈ kt_T := List.mem_filter.mpr ⟨kc_tables_1_7 _ (List.mem_of_getElem? (i := 91) rfl), rfl⟩
set_option maxRecDepth 20000 in
theorem kw_824 : Cond.selects "KettleChoirModel" ⟨"KettleChoirModel", "colder", "(I)I"⟩ ⟨"KettleChoirModel", "colder", "(I)I"⟩ ∈ kt_T := List.mem_filter.mpr ⟨kc_lw_privs_7 (⟨"KettleChoirModel", "colder", "(I)I"⟩, 58) (List.mem_of_getElem? (i := 0) rfl), rfl⟩
set_option maxRecDepth 20000 in
theorem kw_825 : Cond.methodLink "KettleChoirModel" 338 ⟨"KettleChoirModel", "hotter", "(II)I"⟩ ∈ kt_T := List.mem_filter.mpr ⟨kc_tables_1_7 _ (List.mem_of_getElem? (i := 94) rfl), rfl⟩
set_option maxRecDepth 20000 in
theorem kw_826 : Cond.instanceMethod ⟨"KettleChoirModel", "hotter", "(II)I"⟩ ∈ kt_T := List.mem_filter.mpr ⟨kc_tables_1_7 _ (List.mem_of_getElem? (i := 96) rfl), rfl⟩
set_option maxRecDepth 20000 in
theorem kw_827 : Cond.selects "KettleChoirModel" ⟨"KettleChoirModel", "hotter", "(II)I"⟩ ⟨"KettleChoirModel", "hotter", "(II)I"⟩ ∈ kt_T := List.mem_filter.mpr ⟨kc_lw_privs_7 (⟨"KettleChoirModel", "hotter", "(II)I"⟩, 58) (List.mem_of_getElem? (i := 1) rfl), rfl⟩
set_option maxRecDepth 20000 in
theorem kw_828 : Cond.methodLink "KettleChoirModel" 341 ⟨"KettleChoirModel", "sing", "(I)V"⟩ ∈ kt_T := List.mem_filter.mpr ⟨kc_tables_1_7 _ (List.mem_of_getElem? (i := 98) rfl), rfl⟩
set_option maxRecDepth 20000 in
theorem kw_829 : Cond.instanceMethod ⟨"KettleChoirModel", "sing", "(I)V"⟩ ∈ kt_T := List.mem_filter.mpr ⟨kc_tables_1_7 _ (List.mem_of_getElem? (i := 100) rfl), rfl⟩
set_option maxRecDepth 20000 in
theorem kw_830 : Cond.selects "KettleChoirModel" ⟨"KettleChoirModel", "sing", "(I)V"⟩ ⟨"KettleChoirModel", "sing", "(I)V"⟩ ∈ kt_T := List.mem_filter.mpr ⟨kc_lw_privs_7 (⟨"KettleChoirModel", "sing", "(I)V"⟩, 58) (List.mem_of_getElem? (i := 2) rfl), rfl⟩
set_option maxRecDepth 20000 in
theorem kw_831 : Cond.methodLink "KettleChoirModel" 344 ⟨"KettleChoirModel", "isChord", "(II)Z"⟩ ∈ kt_T := List.mem_filter.mpr ⟨kc_tables_1_7 _ (List.mem_of_getElem? (i := 110) rfl), rfl⟩
set_option maxRecDepth 20000 in
theorem kw_832 : Cond.instanceMethod ⟨"KettleChoirModel", "isChord", "(II)Z"⟩ ∈ kt_T := List.mem_filter.mpr ⟨kc_tables_1_7 _ (List.mem_of_getElem? (i := 112) rfl), rfl⟩
set_option maxRecDepth 20000 in
theorem kw_833 : Cond.selects "KettleChoirModel" ⟨"KettleChoirModel", "isChord", "(II)Z"⟩ ⟨"KettleChoirModel", "isChord", "(II)Z"⟩ ∈ kt_T := List.mem_filter.mpr ⟨kc_lw_privs_7 (⟨"KettleChoirModel", "isChord", "(II)Z"⟩, 58) (List.mem_of_getElem? (i := 5) rfl), rfl⟩
set_option maxRecDepth 20000 in
theorem kw_834 : Cond.methodLink "KettleChoirModel" 347 ⟨"KettleChoirModel", "lose", "(I)V"⟩ ∈ kt_T := List.mem_filter.mpr ⟨kc_tables_1_7 _ (List.mem_of_getElem? (i := 118) rfl), rfl⟩
set_option maxRecDepth 20000 in
theorem kw_835 : Cond.instanceMethod ⟨"KettleChoirModel", "lose", "(I)V"⟩ ∈ kt_T := List.mem_filter.mpr ⟨kc_tables_1_7 _ (List.mem_of_getElem? (i := 120) rfl), rfl⟩
set_option maxRecDepth 20000 in
theorem kw_836 : Cond.selects "KettleChoirModel" ⟨"KettleChoirModel", "lose", "(I)V"⟩ ⟨"KettleChoirModel", "lose", "(I)V"⟩ ∈ kt_T := List.mem_filter.mpr ⟨kc_lw_privs_7 (⟨"KettleChoirModel", "lose", "(I)V"⟩, 58) (List.mem_of_getElem? (i := 7) rfl), rfl⟩
set_option maxRecDepth 20000 in
theorem kw_837 : Cond.methodLink "KettleChoirModel" 350 ⟨"KettleChoirModel", "isLifted", "(I)Z"⟩ ∈ kt_T := List.mem_filter.mpr ⟨kc_tables_1_7 _ (List.mem_of_getElem? (i := 122) rfl), rfl⟩
set_option maxRecDepth 20000 in
theorem kw_838 : Cond.instanceMethod ⟨"KettleChoirModel", "isLifted", "(I)Z"⟩ ∈ kt_T := List.mem_filter.mpr ⟨kc_tables_1_7 _ (List.mem_of_getElem? (i := 124) rfl), rfl⟩
set_option maxRecDepth 20000 in
theorem kw_839 : Cond.selects "KettleChoirModel" ⟨"KettleChoirModel", "isLifted", "(I)Z"⟩ ⟨"KettleChoirModel", "isLifted", "(I)Z"⟩ ∈ kt_T := List.mem_filter.mpr ⟨kc_lw_privs_7 (⟨"KettleChoirModel", "isLifted", "(I)Z"⟩, 58) (List.mem_of_getElem? (i := 8) rfl), rfl⟩
set_option maxRecDepth 20000 in
theorem kw_840 : Cond.code ⟨"KettleChoirModel", "aMinute", "()V"⟩ prog_12_method_54_code 3 none ∈ kt_T := List.mem_filter.mpr ⟨kc_tables_1_7 _ (List.mem_of_getElem? (i := 88) rfl), rfl⟩
set_option maxRecDepth 20000 in
theorem kw_841 : Cond.code ⟨"KettleChoirModel", "lids", "()I"⟩ prog_12_method_55_code 3 (some .int) ∈ kt_T := List.mem_filter.mpr ⟨kc_tables_1_7 _ (List.mem_of_getElem? (i := 29) rfl), rfl⟩
set_option maxRecDepth 20000 in
theorem kw_842 : Cond.constantLong "KettleChoirModel" 353 (3 : Int64) ∈ kt_T := List.mem_filter.mpr ⟨kc_tables_1_7 _ (List.mem_of_getElem? (i := 34) rfl), rfl⟩
set_option maxRecDepth 20000 in
theorem kw_843 : Cond.constantLong "KettleChoirModel" 355 (4 : Int64) ∈ kt_T := List.mem_filter.mpr ⟨kc_tables_1_7 _ (List.mem_of_getElem? (i := 35) rfl), rfl⟩
set_option maxRecDepth 20000 in
theorem kw_844 : Cond.code ⟨"KettleChoirModel", "thirds", "()I"⟩ prog_12_method_56_code 4 (some .int) ∈ kt_T := List.mem_filter.mpr ⟨kc_tables_1_7 _ (List.mem_of_getElem? (i := 33) rfl), rfl⟩
set_option maxRecDepth 20000 in
theorem kw_845 : Cond.code ⟨"KettleChoirModel", "readySet", "()I"⟩ prog_12_method_57_code 3 (some .int) ∈ kt_T := List.mem_filter.mpr ⟨kc_tables_1_7 _ (List.mem_of_getElem? (i := 25) rfl), rfl⟩
set_option maxRecDepth 20000 in
theorem kw_846 : Cond.methodLink "KettleChoirModel" 357 ⟨"KettleChoirModel", "readySet", "()I"⟩ ∈ kt_T := List.mem_filter.mpr ⟨kc_tables_1_7 _ (List.mem_of_getElem? (i := 22) rfl), rfl⟩
set_option maxRecDepth 20000 in
theorem kw_847 : Cond.instanceMethod ⟨"KettleChoirModel", "readySet", "()I"⟩ ∈ kt_T := List.mem_filter.mpr ⟨kc_tables_1_7 _ (List.mem_of_getElem? (i := 24) rfl), rfl⟩
set_option maxRecDepth 20000 in
theorem kw_848 : Cond.selects "KettleChoirModel" ⟨"KettleChoirModel", "readySet", "()I"⟩ ⟨"KettleChoirModel", "readySet", "()I"⟩ ∈ kt_T := List.mem_filter.mpr ⟨kc_lw_privs_6 (⟨"KettleChoirModel", "readySet", "()I"⟩, 58) (List.mem_of_getElem? (i := 5) rfl), rfl⟩
set_option maxRecDepth 20000 in
theorem kw_849 : Cond.methodLink "KettleChoirModel" 360 ⟨"KettleChoirModel", "lids", "()I"⟩ ∈ kt_T := List.mem_filter.mpr ⟨kc_tables_1_7 _ (List.mem_of_getElem? (i := 26) rfl), rfl⟩
set_option maxRecDepth 20000 in
theorem kw_850 : Cond.instanceMethod ⟨"KettleChoirModel", "lids", "()I"⟩ ∈ kt_T := List.mem_filter.mpr ⟨kc_tables_1_7 _ (List.mem_of_getElem? (i := 28) rfl), rfl⟩
set_option maxRecDepth 20000 in
theorem kw_851 : Cond.selects "KettleChoirModel" ⟨"KettleChoirModel", "lids", "()I"⟩ ⟨"KettleChoirModel", "lids", "()I"⟩ ∈ kt_T := List.mem_filter.mpr ⟨kc_lw_privs_6 (⟨"KettleChoirModel", "lids", "()I"⟩, 58) (List.mem_of_getElem? (i := 6) rfl), rfl⟩
set_option maxRecDepth 20000 in
theorem kw_852 : Cond.methodLink "KettleChoirModel" 363 ⟨"KettleChoirModel", "thirds", "()I"⟩ ∈ kt_T := List.mem_filter.mpr ⟨kc_tables_1_7 _ (List.mem_of_getElem? (i := 30) rfl), rfl⟩
set_option maxRecDepth 20000 in
theorem kw_853 : Cond.instanceMethod ⟨"KettleChoirModel", "thirds", "()I"⟩ ∈ kt_T := List.mem_filter.mpr ⟨kc_tables_1_7 _ (List.mem_of_getElem? (i := 32) rfl), rfl⟩
set_option maxRecDepth 20000 in
theorem kw_854 : Cond.selects "KettleChoirModel" ⟨"KettleChoirModel", "thirds", "()I"⟩ ⟨"KettleChoirModel", "thirds", "()I"⟩ ∈ kt_T := List.mem_filter.mpr ⟨kc_lw_privs_6 (⟨"KettleChoirModel", "thirds", "()I"⟩, 58) (List.mem_of_getElem? (i := 7) rfl), rfl⟩
set_option maxRecDepth 20000 in
theorem kw_855 : Cond.code ⟨"KettleChoirModel", "count", "(I)I"⟩ prog_12_method_58_code 2 (some .int) ∈ kt_T := List.mem_filter.mpr ⟨kc_tables_1_7 _ (List.mem_of_getElem? (i := 17) rfl), rfl⟩
set_option maxRecDepth 20000 in
theorem kw_856 : Cond.methodLink "KettleChoirModel" 366 ⟨"KettleChoirModel", "isKettle", "(I)Z"⟩ ∈ kt_T := List.mem_filter.mpr ⟨kc_tables_1_7 _ (List.mem_of_getElem? (i := 43) rfl), rfl⟩
set_option maxRecDepth 20000 in
theorem kw_857 : Cond.instanceMethod ⟨"KettleChoirModel", "isKettle", "(I)Z"⟩ ∈ kt_T := List.mem_filter.mpr ⟨kc_tables_1_7 _ (List.mem_of_getElem? (i := 45) rfl), rfl⟩
set_option maxRecDepth 20000 in
theorem kw_858 : Cond.selects "KettleChoirModel" ⟨"KettleChoirModel", "isKettle", "(I)Z"⟩ ⟨"KettleChoirModel", "isKettle", "(I)Z"⟩ ∈ kt_T := List.mem_filter.mpr ⟨kc_lw_privs_6 (⟨"KettleChoirModel", "isKettle", "(I)Z"⟩, 58) (List.mem_of_getElem? (i := 8) rfl), rfl⟩
set_option maxRecDepth 20000 in
theorem kw_859 : Cond.code ⟨"KettleChoirModel", "kettle", "(II)I"⟩ prog_12_method_59_code 3 (some .int) ∈ kt_T := List.mem_filter.mpr ⟨kc_tables_1_7 _ (List.mem_of_getElem? (i := 42) rfl), rfl⟩
set_option maxRecDepth 20000 in
theorem kw_860 : Cond.code ⟨"KettleChoirModel", "kettleOn", "(I)I"⟩ prog_12_method_60_code 3 (some .int) ∈ kt_T := List.mem_filter.mpr ⟨kc_tables_1_7 _ (List.mem_of_getElem? (i := 58) rfl), rfl⟩
set_option maxRecDepth 20000 in
theorem kw_861 : Cond.methodLink "KettleChoirModel" 369 ⟨"KettleChoirModel", "isStove", "(I)Z"⟩ ∈ kt_T := List.mem_filter.mpr ⟨kc_tables_1_7 _ (List.mem_of_getElem? (i := 51) rfl), rfl⟩
set_option maxRecDepth 20000 in
theorem kw_862 : Cond.instanceMethod ⟨"KettleChoirModel", "isStove", "(I)Z"⟩ ∈ kt_T := List.mem_filter.mpr ⟨kc_tables_1_7 _ (List.mem_of_getElem? (i := 53) rfl), rfl⟩
set_option maxRecDepth 20000 in
theorem kw_863 : Cond.selects "KettleChoirModel" ⟨"KettleChoirModel", "isStove", "(I)Z"⟩ ⟨"KettleChoirModel", "isStove", "(I)Z"⟩ ∈ kt_T := List.mem_filter.mpr ⟨kc_lw_privs_6 (⟨"KettleChoirModel", "isStove", "(I)Z"⟩, 58) (List.mem_of_getElem? (i := 9) rfl), rfl⟩
set_option maxRecDepth 20000 in
theorem kw_864 : Cond.methodLink "KettleChoirModel" 372 ⟨"KettleChoirModel", "kettleOn", "(I)I"⟩ ∈ kt_T := List.mem_filter.mpr ⟨kc_tables_1_7 _ (List.mem_of_getElem? (i := 55) rfl), rfl⟩
set_option maxRecDepth 20000 in
theorem kw_865 : Cond.instanceMethod ⟨"KettleChoirModel", "kettleOn", "(I)I"⟩ ∈ kt_T := List.mem_filter.mpr ⟨kc_tables_1_7 _ (List.mem_of_getElem? (i := 57) rfl), rfl⟩
set_option maxRecDepth 20000 in
theorem kw_866 : Cond.selects "KettleChoirModel" ⟨"KettleChoirModel", "kettleOn", "(I)I"⟩ ⟨"KettleChoirModel", "kettleOn", "(I)I"⟩ ∈ kt_T := List.mem_filter.mpr ⟨kc_lw_privs_6 (⟨"KettleChoirModel", "kettleOn", "(I)I"⟩, 58) (List.mem_of_getElem? (i := 10) rfl), rfl⟩
set_option maxRecDepth 20000 in
theorem kw_867 : Cond.code ⟨"KettleChoirModel", "stove", "(II)I"⟩ prog_12_method_61_code 3 (some .int) ∈ kt_T := List.mem_filter.mpr ⟨kc_tables_1_7 _ (List.mem_of_getElem? (i := 50) rfl), rfl⟩
set_option maxRecDepth 20000 in
theorem kw_868 : Cond.methodLink "KettleChoirModel" 375 ⟨"KettleChoirModel", "isDish", "(I)Z"⟩ ∈ kt_T := List.mem_filter.mpr ⟨kc_tables_1_7 _ (List.mem_of_getElem? (i := 63) rfl), rfl⟩
set_option maxRecDepth 20000 in
theorem kw_869 : Cond.instanceMethod ⟨"KettleChoirModel", "isDish", "(I)Z"⟩ ∈ kt_T := List.mem_filter.mpr ⟨kc_tables_1_7 _ (List.mem_of_getElem? (i := 65) rfl), rfl⟩
set_option maxRecDepth 20000 in
theorem kw_870 : Cond.selects "KettleChoirModel" ⟨"KettleChoirModel", "isDish", "(I)Z"⟩ ⟨"KettleChoirModel", "isDish", "(I)Z"⟩ ∈ kt_T := List.mem_filter.mpr ⟨kc_lw_privs_6 (⟨"KettleChoirModel", "isDish", "(I)Z"⟩, 58) (List.mem_of_getElem? (i := 11) rfl), rfl⟩
set_option maxRecDepth 20000 in
theorem kw_871 : Cond.constantLong "KettleChoirModel" 378 (-2 : Int64) ∈ kt_T := List.mem_filter.mpr ⟨kc_tables_1_7 _ (List.mem_of_getElem? (i := 67) rfl), rfl⟩
set_option maxRecDepth 20000 in
theorem kw_872 : Cond.code ⟨"KettleChoirModel", "dish", "(II)I"⟩ prog_12_method_62_code 3 (some .int) ∈ kt_T := List.mem_filter.mpr ⟨kc_tables_1_7 _ (List.mem_of_getElem? (i := 62) rfl), rfl⟩
set_option maxRecDepth 20000 in
theorem kw_873 : Cond.code ⟨"KettleChoirModel", "refuse", "(I)I"⟩ prog_12_method_63_code 2 (some .int) ∈ kt_T := List.mem_filter.mpr ⟨kc_tables_1_7 _ (List.mem_of_getElem? (i := 76) rfl), rfl⟩
set_option maxRecDepth 20000 in
theorem kw_874 : Cond.methodLink "KettleChoirModel" 380 ⟨"KettleChoirModel", "pack", "([II)V"⟩ ∈ kt_T := List.mem_filter.mpr ⟨kc_tables_1_7 _ (List.mem_of_getElem? (i := 81) rfl), rfl⟩
set_option maxRecDepth 20000 in
theorem kw_875 : Cond.instanceMethod ⟨"KettleChoirModel", "pack", "([II)V"⟩ ∈ kt_T := List.mem_filter.mpr ⟨kc_tables_1_7 _ (List.mem_of_getElem? (i := 83) rfl), rfl⟩
set_option maxRecDepth 20000 in
theorem kw_876 : Cond.selects "KettleChoirModel" ⟨"KettleChoirModel", "pack", "([II)V"⟩ ⟨"KettleChoirModel", "pack", "([II)V"⟩ ∈ kt_T := List.mem_filter.mpr ⟨kc_lw_privs_6 (⟨"KettleChoirModel", "pack", "([II)V"⟩, 58) (List.mem_of_getElem? (i := 14) rfl), rfl⟩
set_option maxRecDepth 20000 in
theorem kw_877 : Cond.code ⟨"KettleChoirModel", "keep", "()V"⟩ prog_12_method_64_code 2 none ∈ kt_T := List.mem_filter.mpr ⟨kc_tables_1_7 _ (List.mem_of_getElem? (i := 80) rfl), rfl⟩
set_option maxRecDepth 20000 in
theorem kw_878 : Cond.constantLong "KettleChoirModel" 384 (30 : Int64) ∈ kt_T := List.mem_filter.mpr ⟨kc_tables_1_7 _ (List.mem_of_getElem? (i := 72) rfl), rfl⟩
set_option maxRecDepth 20000 in
theorem kw_879 : Cond.methodLink "KettleChoirModel" 386 ⟨"KettleChoirModel", "refuse", "(I)I"⟩ ∈ kt_T := List.mem_filter.mpr ⟨kc_tables_1_7 _ (List.mem_of_getElem? (i := 73) rfl), rfl⟩
set_option maxRecDepth 20000 in
theorem kw_880 : Cond.instanceMethod ⟨"KettleChoirModel", "refuse", "(I)I"⟩ ∈ kt_T := List.mem_filter.mpr ⟨kc_tables_1_7 _ (List.mem_of_getElem? (i := 75) rfl), rfl⟩
set_option maxRecDepth 20000 in
theorem kw_881 : Cond.selects "KettleChoirModel" ⟨"KettleChoirModel", "refuse", "(I)I"⟩ ⟨"KettleChoirModel", "refuse", "(I)I"⟩ ∈ kt_T := List.mem_filter.mpr ⟨kc_lw_privs_6 (⟨"KettleChoirModel", "refuse", "(I)I"⟩, 58) (List.mem_of_getElem? (i := 12) rfl), rfl⟩
set_option maxRecDepth 20000 in
theorem kw_882 : Cond.methodLink "KettleChoirModel" 389 ⟨"KettleChoirModel", "keep", "()V"⟩ ∈ kt_T := List.mem_filter.mpr ⟨kc_tables_1_7 _ (List.mem_of_getElem? (i := 77) rfl), rfl⟩
set_option maxRecDepth 20000 in
theorem kw_883 : Cond.instanceMethod ⟨"KettleChoirModel", "keep", "()V"⟩ ∈ kt_T := List.mem_filter.mpr ⟨kc_tables_1_7 _ (List.mem_of_getElem? (i := 79) rfl), rfl⟩
set_option maxRecDepth 20000 in
theorem kw_884 : Cond.selects "KettleChoirModel" ⟨"KettleChoirModel", "keep", "()V"⟩ ⟨"KettleChoirModel", "keep", "()V"⟩ ∈ kt_T := List.mem_filter.mpr ⟨kc_lw_privs_6 (⟨"KettleChoirModel", "keep", "()V"⟩, 58) (List.mem_of_getElem? (i := 13) rfl), rfl⟩
set_option maxRecDepth 20000 in
theorem kw_885 : Cond.methodLink "KettleChoirModel" 392 ⟨"KettleChoirModel", "aMinute", "()V"⟩ ∈ kt_T := List.mem_filter.mpr ⟨kc_tables_1_7 _ (List.mem_of_getElem? (i := 85) rfl), rfl⟩
set_option maxRecDepth 20000 in
theorem kw_886 : Cond.instanceMethod ⟨"KettleChoirModel", "aMinute", "()V"⟩ ∈ kt_T := List.mem_filter.mpr ⟨kc_tables_1_7 _ (List.mem_of_getElem? (i := 87) rfl), rfl⟩
set_option maxRecDepth 20000 in
theorem kw_887 : Cond.selects "KettleChoirModel" ⟨"KettleChoirModel", "aMinute", "()V"⟩ ⟨"KettleChoirModel", "aMinute", "()V"⟩ ∈ kt_T := List.mem_filter.mpr ⟨kc_lw_privs_6 (⟨"KettleChoirModel", "aMinute", "()V"⟩, 58) (List.mem_of_getElem? (i := 15) rfl), rfl⟩
set_option maxRecDepth 20000 in
theorem kw_888 : Cond.code ⟨"KettleChoirModel", "minutes", "(I)I"⟩ prog_12_method_65_code 3 (some .int) ∈ kt_T := List.mem_filter.mpr ⟨kc_tables_1_7 _ (List.mem_of_getElem? (i := 71) rfl), rfl⟩
set_option maxRecDepth 20000 in
theorem kw_889 : Cond.methodLink "KettleChoirModel" 395 ⟨"KettleChoirModel", "failing", "(I)Z"⟩ ∈ kt_T := List.mem_filter.mpr ⟨kc_tables_1_7 _ (List.mem_of_getElem? (i := 140) rfl), rfl⟩
set_option maxRecDepth 20000 in
theorem kw_890 : Cond.instanceMethod ⟨"KettleChoirModel", "failing", "(I)Z"⟩ ∈ kt_T := List.mem_filter.mpr ⟨kc_tables_1_7 _ (List.mem_of_getElem? (i := 142) rfl), rfl⟩
set_option maxRecDepth 20000 in
theorem kw_891 : Cond.selects "KettleChoirModel" ⟨"KettleChoirModel", "failing", "(I)Z"⟩ ⟨"KettleChoirModel", "failing", "(I)Z"⟩ ∈ kt_T := List.mem_filter.mpr ⟨kc_lw_privs_7 (⟨"KettleChoirModel", "failing", "(I)Z"⟩, 58) (List.mem_of_getElem? (i := 10) rfl), rfl⟩
set_option maxRecDepth 20000 in
theorem kw_892 : Cond.code ⟨"KettleChoirModel", "put", "(II)Z"⟩ prog_12_method_66_code 3 (some .boolean) ∈ kt_T := List.mem_filter.mpr ⟨kc_tables_1_7 _ (List.mem_of_getElem? (i := 139) rfl), rfl⟩
set_option maxRecDepth 20000 in
theorem kw_893 : Cond.code ⟨"KettleChoirModel", "lift", "(I)I"⟩ prog_12_method_67_code 3 (some .int) ∈ kt_T := List.mem_filter.mpr ⟨kc_tables_1_7 _ (List.mem_of_getElem? (i := 147) rfl), rfl⟩
set_option maxRecDepth 20000 in
theorem kw_894 : Cond.code ⟨"KettleChoirModel", "pour", "(II)I"⟩ prog_12_method_68_code 3 (some .int) ∈ kt_T := List.mem_filter.mpr ⟨kc_tables_1_7 _ (List.mem_of_getElem? (i := 151) rfl), rfl⟩
set_option maxRecDepth 20000 in
theorem kw_895 : Cond.code ⟨"KettleChoirModel", "scrape", "(I)I"⟩ prog_12_method_69_code 3 (some .int) ∈ kt_T := List.mem_filter.mpr ⟨kc_tables_1_7 _ (List.mem_of_getElem? (i := 155) rfl), rfl⟩
set_option maxRecDepth 20000 in
theorem kw_896 : Cond.methodLink "KettleChoirModel" 398 ⟨"KettleChoirModel", "unpack", "([II)V"⟩ ∈ kt_T := List.mem_filter.mpr ⟨kc_tables_1_7 _ (List.mem_of_getElem? (i := 160) rfl), rfl⟩
set_option maxRecDepth 20000 in
theorem kw_897 : Cond.instanceMethod ⟨"KettleChoirModel", "unpack", "([II)V"⟩ ∈ kt_T := List.mem_filter.mpr ⟨kc_tables_1_7 _ (List.mem_of_getElem? (i := 162) rfl), rfl⟩
set_option maxRecDepth 20000 in
theorem kw_898 : Cond.selects "KettleChoirModel" ⟨"KettleChoirModel", "unpack", "([II)V"⟩ ⟨"KettleChoirModel", "unpack", "([II)V"⟩ ∈ kt_T := List.mem_filter.mpr ⟨kc_lw_privs_7 (⟨"KettleChoirModel", "unpack", "([II)V"⟩, 58) (List.mem_of_getElem? (i := 11) rfl), rfl⟩
set_option maxRecDepth 20000 in
theorem kw_899 : Cond.code ⟨"KettleChoirModel", "undo", "()I"⟩ prog_12_method_70_code 1 (some .int) ∈ kt_T := List.mem_filter.mpr ⟨kc_tables_1_7 _ (List.mem_of_getElem? (i := 159) rfl), rfl⟩
set_option maxRecDepth 20000 in
theorem kw_900 : Cond.constantLong "KettleChoirModel" 401 (120 : Int64) ∈ kt_T := List.mem_filter.mpr ⟨kc_tables_1_7 _ (List.mem_of_getElem? (i := 168) rfl), rfl⟩
set_option maxRecDepth 20000 in
theorem kw_901 : Cond.code ⟨"KettleChoirModel", "then", "(II)I"⟩ prog_12_method_71_code 4 (some .int) ∈ kt_T := List.mem_filter.mpr ⟨kc_tables_1_7 _ (List.mem_of_getElem? (i := 167) rfl), rfl⟩
set_option maxRecDepth 20000 in
theorem kw_902 : Cond.code ⟨"KettleChoirModel", "sung", "(I)I"⟩ prog_12_method_72_code 4 (some .int) ∈ kt_T := List.mem_filter.mpr ⟨kc_tables_1_7 _ (List.mem_of_getElem? (i := 172) rfl), rfl⟩
set_option maxRecDepth 20000 in
theorem kw_903 : Cond.code ⟨"KettleChoirModel", "doneIn", "(II)I"⟩ prog_12_method_73_code 4 (some .int) ∈ kt_T := List.mem_filter.mpr ⟨kc_tables_1_7 _ (List.mem_of_getElem? (i := 180) rfl), rfl⟩
set_option maxRecDepth 20000 in
theorem kw_904 : Cond.methodLink "KettleChoirModel" 403 ⟨"KettleChoirModel", "doneIn", "(II)I"⟩ ∈ kt_T := List.mem_filter.mpr ⟨kc_tables_1_7 _ (List.mem_of_getElem? (i := 177) rfl), rfl⟩
set_option maxRecDepth 20000 in
theorem kw_905 : Cond.instanceMethod ⟨"KettleChoirModel", "doneIn", "(II)I"⟩ ∈ kt_T := List.mem_filter.mpr ⟨kc_tables_1_7 _ (List.mem_of_getElem? (i := 179) rfl), rfl⟩
set_option maxRecDepth 20000 in
theorem kw_906 : Cond.selects "KettleChoirModel" ⟨"KettleChoirModel", "doneIn", "(II)I"⟩ ⟨"KettleChoirModel", "doneIn", "(II)I"⟩ ∈ kt_T := List.mem_filter.mpr ⟨kc_lw_privs_7 (⟨"KettleChoirModel", "doneIn", "(II)I"⟩, 58) (List.mem_of_getElem? (i := 12) rfl), rfl⟩
set_option maxRecDepth 20000 in
theorem kw_907 : Cond.code ⟨"KettleChoirModel", "done", "(I)I"⟩ prog_12_method_74_code 3 (some .int) ∈ kt_T := List.mem_filter.mpr ⟨kc_tables_1_7 _ (List.mem_of_getElem? (i := 176) rfl), rfl⟩
set_option maxRecDepth 20000 in
theorem kw_908 : Cond.constantLong "KettleChoirModel" 406 (8 : Int64) ∈ kt_T := List.mem_filter.mpr ⟨kc_tables_1_7 _ (List.mem_of_getElem? (i := 185) rfl), rfl⟩
set_option maxRecDepth 20000 in
theorem kw_909 : Cond.code ⟨"KettleChoirModel", "fugue", "(I)I"⟩ prog_12_method_75_code 4 (some .int) ∈ kt_T := List.mem_filter.mpr ⟨kc_tables_1_7 _ (List.mem_of_getElem? (i := 184) rfl), rfl⟩
set_option maxRecDepth 20000 in
theorem kw_910 : Cond.code ⟨"KettleChoirModel", "quiet", "()I"⟩ prog_12_method_76_code 4 (some .int) ∈ kt_T := List.mem_filter.mpr ⟨kc_tables_1_7 _ (List.mem_of_getElem? (i := 189) rfl), rfl⟩
set_option maxRecDepth 20000 in
theorem kw_911 : Cond.code ⟨"KettleChoirModel", "loudest", "(I)I"⟩ prog_12_method_77_code 5 (some .int) ∈ kt_T := List.mem_filter.mpr ⟨kc_tables_1_7 _ (List.mem_of_getElem? (i := 193) rfl), rfl⟩
set_option maxRecDepth 20000 in
theorem kw_912 : Cond.code ⟨"KettleChoirModel", "dry", "(I)I"⟩ prog_12_method_78_code 4 (some .int) ∈ kt_T := List.mem_filter.mpr ⟨kc_tables_1_7 _ (List.mem_of_getElem? (i := 197) rfl), rfl⟩
set_option maxRecDepth 20000 in
theorem kw_913 : Cond.fieldLink "KettleChoirModel" 408 "KettleChoirModel" "soon" "I" ∈ kt_T := List.mem_filter.mpr ⟨kc_tables_1_5 _ (List.mem_of_getElem? (i := 231) rfl), rfl⟩
set_option maxRecDepth 20000 in
theorem kw_914 : Cond.methodLink "KettleChoirModel" 411 ⟨"KettleChoirModel", "goPlaces", "(II)V"⟩ ∈ kt_T := List.mem_filter.mpr ⟨kc_tables_1_7 _ (List.mem_of_getElem? (i := 203) rfl), rfl⟩
set_option maxRecDepth 20000 in
theorem kw_915 : Cond.instanceMethod ⟨"KettleChoirModel", "goPlaces", "(II)V"⟩ ∈ kt_T := List.mem_filter.mpr ⟨kc_tables_1_7 _ (List.mem_of_getElem? (i := 205) rfl), rfl⟩
set_option maxRecDepth 20000 in
theorem kw_916 : Cond.selects "KettleChoirModel" ⟨"KettleChoirModel", "goPlaces", "(II)V"⟩ ⟨"KettleChoirModel", "goPlaces", "(II)V"⟩ ∈ kt_T := List.mem_filter.mpr ⟨kc_lw_privs_7 (⟨"KettleChoirModel", "goPlaces", "(II)V"⟩, 58) (List.mem_of_getElem? (i := 13) rfl), rfl⟩
set_option maxRecDepth 20000 in
theorem kw_917 : Cond.code ⟨"KettleChoirModel", "goPlaces", "(II)V"⟩ prog_12_method_79_code 6 none ∈ kt_T := List.mem_filter.mpr ⟨kc_tables_1_7 _ (List.mem_of_getElem? (i := 206) rfl), rfl⟩
set_option maxRecDepth 20000 in
theorem kw_918 : Cond.constantLong "KettleChoirModel" 415 (-1 : Int64) ∈ kt_T := List.mem_filter.mpr ⟨kc_tables_1_7 _ (List.mem_of_getElem? (i := 202) rfl), rfl⟩
set_option maxRecDepth 20000 in
theorem kw_919 : Cond.code ⟨"KettleChoirModel", "soonest", "(II)I"⟩ prog_12_method_80_code 4 (some .int) ∈ kt_T := List.mem_filter.mpr ⟨kc_tables_1_7 _ (List.mem_of_getElem? (i := 201) rfl), rfl⟩
set_option maxRecDepth 20000 in
theorem kw_920 : Cond.methodLink "KettleChoirModel" 417 ⟨"java/lang/Math", "abs", "(I)I"⟩ ∈ kt_T := List.mem_filter.mpr ⟨kc_tables_1_7 _ (List.mem_of_getElem? (i := 216) rfl), rfl⟩
set_option maxRecDepth 20000 in
theorem kw_921 : Cond.code ⟨"KettleChoirModel", "tunedTo", "(II)I"⟩ prog_12_method_81_code 5 (some .int) ∈ kt_T := List.mem_filter.mpr ⟨kc_tables_1_7 _ (List.mem_of_getElem? (i := 215) rfl), rfl⟩
set_option maxRecDepth 20000 in
theorem kw_922 : Cond.constantLong "KettleChoirModel" 420 (60 : Int64) ∈ kt_T := List.mem_filter.mpr ⟨kc_tables_1_7 _ (List.mem_of_getElem? (i := 211) rfl), rfl⟩
set_option maxRecDepth 20000 in
theorem kw_923 : Cond.methodLink "KettleChoirModel" 422 ⟨"KettleChoirModel", "tunedTo", "(II)I"⟩ ∈ kt_T := List.mem_filter.mpr ⟨kc_tables_1_7 _ (List.mem_of_getElem? (i := 212) rfl), rfl⟩
set_option maxRecDepth 20000 in
theorem kw_924 : Cond.instanceMethod ⟨"KettleChoirModel", "tunedTo", "(II)I"⟩ ∈ kt_T := List.mem_filter.mpr ⟨kc_tables_1_7 _ (List.mem_of_getElem? (i := 214) rfl), rfl⟩
set_option maxRecDepth 20000 in
theorem kw_925 : Cond.selects "KettleChoirModel" ⟨"KettleChoirModel", "tunedTo", "(II)I"⟩ ⟨"KettleChoirModel", "tunedTo", "(II)I"⟩ ∈ kt_T := List.mem_filter.mpr ⟨kc_lw_privs_7 (⟨"KettleChoirModel", "tunedTo", "(II)I"⟩, 58) (List.mem_of_getElem? (i := 14) rfl), rfl⟩
set_option maxRecDepth 20000 in
theorem kw_926 : Cond.code ⟨"KettleChoirModel", "tuned", "(II)I"⟩ prog_12_method_82_code 3 (some .int) ∈ kt_T := List.mem_filter.mpr ⟨kc_tables_1_7 _ (List.mem_of_getElem? (i := 210) rfl), rfl⟩
set_option maxRecDepth 20000 in
theorem kw_927 : Cond.methodLink "KettleChoirModel" 425 ⟨"KettleChoirModel", "isOf", "(II)Z"⟩ ∈ kt_T := List.mem_filter.mpr ⟨kc_tables_1_7 _ (List.mem_of_getElem? (i := 225) rfl), rfl⟩
set_option maxRecDepth 20000 in
theorem kw_928 : Cond.static ⟨"KettleChoirModel", "isOf", "(II)Z"⟩ ∈ kt_T := List.mem_filter.mpr ⟨kc_tables_1_7 _ (List.mem_of_getElem? (i := 226) rfl), rfl⟩
set_option maxRecDepth 20000 in
theorem kw_929 : Cond.methodLink "KettleChoirModel" 428 ⟨"KettleChoirModel", "chordFrom", "(IIII)I"⟩ ∈ kt_T := List.mem_filter.mpr ⟨kc_tables_1_7 _ (List.mem_of_getElem? (i := 221) rfl), rfl⟩
set_option maxRecDepth 20000 in
theorem kw_930 : Cond.instanceMethod ⟨"KettleChoirModel", "chordFrom", "(IIII)I"⟩ ∈ kt_T := List.mem_filter.mpr ⟨kc_tables_1_7 _ (List.mem_of_getElem? (i := 223) rfl), rfl⟩
set_option maxRecDepth 20000 in
theorem kw_931 : Cond.selects "KettleChoirModel" ⟨"KettleChoirModel", "chordFrom", "(IIII)I"⟩ ⟨"KettleChoirModel", "chordFrom", "(IIII)I"⟩ ∈ kt_T := List.mem_filter.mpr ⟨kc_lw_privs_7 (⟨"KettleChoirModel", "chordFrom", "(IIII)I"⟩, 58) (List.mem_of_getElem? (i := 15) rfl), rfl⟩
set_option maxRecDepth 20000 in
theorem kw_932 : Cond.code ⟨"KettleChoirModel", "chordFrom", "(IIII)I"⟩ prog_12_method_83_code 9 (some .int) ∈ kt_T := List.mem_filter.mpr ⟨kc_tables_1_7 _ (List.mem_of_getElem? (i := 224) rfl), rfl⟩
set_option maxRecDepth 20000 in
theorem kw_933 : Cond.code ⟨"KettleChoirModel", "chord", "(I)I"⟩ prog_12_method_84_code 4 (some .int) ∈ kt_T := List.mem_filter.mpr ⟨kc_tables_1_7 _ (List.mem_of_getElem? (i := 220) rfl), rfl⟩
set_option maxRecDepth 20000 in
theorem kw_934 : Cond.code ⟨"KettleChoirModel", "burner", "(II)I"⟩ prog_12_method_85_code 7 (some .int) ∈ kt_T := List.mem_filter.mpr ⟨kc_tables_1_7 _ (List.mem_of_getElem? (i := 231) rfl), rfl⟩
set_option maxRecDepth 20000 in
theorem kw_935 : Cond.constantLong "KettleChoirModel" 432 (40 : Int64) ∈ kt_T := List.mem_filter.mpr ⟨kc_tables_1_7 _ (List.mem_of_getElem? (i := 236) rfl), rfl⟩
set_option maxRecDepth 20000 in
theorem kw_936 : Cond.constantLong "KettleChoirModel" 434 (24 : Int64) ∈ kt_T := List.mem_filter.mpr ⟨kc_tables_1_7 _ (List.mem_of_getElem? (i := 237) rfl), rfl⟩
set_option maxRecDepth 20000 in
theorem kw_937 : Cond.code ⟨"KettleChoirModel", "together", "(IIII)I"⟩ prog_12_method_86_code 7 (some .int) ∈ kt_T := List.mem_filter.mpr ⟨kc_tables_1_7 _ (List.mem_of_getElem? (i := 235) rfl), rfl⟩
set_option maxRecDepth 20000 in
theorem kw_938 : Cond.code ⟨"KettleChoirModel", "hear", "(II)I"⟩ prog_12_method_87_code 3 (some .int) ∈ kt_T := List.mem_filter.mpr ⟨kc_tables_1_8 _ (List.mem_of_getElem? (i := 1) rfl), rfl⟩
set_option maxRecDepth 20000 in
theorem kw_939 : Cond.code ⟨"KettleChoirModel", "isAsHeard", "()Z"⟩ prog_12_method_88_code 5 (some .boolean) ∈ kt_T := List.mem_filter.mpr ⟨kc_tables_1_8 _ (List.mem_of_getElem? (i := 10) rfl), rfl⟩
set_option maxRecDepth 20000 in
theorem kw_940 : Cond.fieldLink "KettleChoirModel" 436 "KettleChoirModel" "fitMany" "I" ∈ kt_T := List.mem_filter.mpr ⟨kc_tables_1_5 _ (List.mem_of_getElem? (i := 236) rfl), rfl⟩
set_option maxRecDepth 20000 in
theorem kw_941 : Cond.methodLink "KettleChoirModel" 439 ⟨"KettleChoirModel", "isAsHeard", "()Z"⟩ ∈ kt_T := List.mem_filter.mpr ⟨kc_tables_1_8 _ (List.mem_of_getElem? (i := 7) rfl), rfl⟩
set_option maxRecDepth 20000 in
theorem kw_942 : Cond.instanceMethod ⟨"KettleChoirModel", "isAsHeard", "()Z"⟩ ∈ kt_T := List.mem_filter.mpr ⟨kc_tables_1_8 _ (List.mem_of_getElem? (i := 9) rfl), rfl⟩
set_option maxRecDepth 20000 in
theorem kw_943 : Cond.selects "KettleChoirModel" ⟨"KettleChoirModel", "isAsHeard", "()Z"⟩ ⟨"KettleChoirModel", "isAsHeard", "()Z"⟩ ∈ kt_T := List.mem_filter.mpr ⟨kc_lw_privs_8 (⟨"KettleChoirModel", "isAsHeard", "()Z"⟩, 58) (List.mem_of_getElem? (i := 0) rfl), rfl⟩
set_option maxRecDepth 20000 in
theorem kw_944 : Cond.code ⟨"KettleChoirModel", "tellFits", "()V"⟩ prog_12_method_89_code 4 none ∈ kt_T := List.mem_filter.mpr ⟨kc_tables_1_8 _ (List.mem_of_getElem? (i := 14) rfl), rfl⟩
set_option maxRecDepth 20000 in
theorem kw_945 : Cond.constantLong "KettleChoirModel" 443 (2 : Int64) ∈ kt_T := List.mem_filter.mpr ⟨kc_tables_1_8 _ (List.mem_of_getElem? (i := 6) rfl), rfl⟩
set_option maxRecDepth 20000 in
theorem kw_946 : Cond.methodLink "KettleChoirModel" 445 ⟨"KettleChoirModel", "tellFits", "()V"⟩ ∈ kt_T := List.mem_filter.mpr ⟨kc_tables_1_8 _ (List.mem_of_getElem? (i := 11) rfl), rfl⟩
set_option maxRecDepth 20000 in
theorem kw_947 : Cond.instanceMethod ⟨"KettleChoirModel", "tellFits", "()V"⟩ ∈ kt_T := List.mem_filter.mpr ⟨kc_tables_1_8 _ (List.mem_of_getElem? (i := 13) rfl), rfl⟩
set_option maxRecDepth 20000 in
theorem kw_948 : Cond.selects "KettleChoirModel" ⟨"KettleChoirModel", "tellFits", "()V"⟩ ⟨"KettleChoirModel", "tellFits", "()V"⟩ ∈ kt_T := List.mem_filter.mpr ⟨kc_lw_privs_8 (⟨"KettleChoirModel", "tellFits", "()V"⟩, 58) (List.mem_of_getElem? (i := 1) rfl), rfl⟩
set_option maxRecDepth 20000 in
theorem kw_949 : Cond.code ⟨"KettleChoirModel", "chalk", "(I)I"⟩ prog_12_method_90_code 2 (some .int) ∈ kt_T := List.mem_filter.mpr ⟨kc_tables_1_8 _ (List.mem_of_getElem? (i := 5) rfl), rfl⟩
set_option maxRecDepth 20000 in
theorem kw_950 : Cond.code ⟨"KettleChoirModel", "choir", "()J"⟩ prog_12_method_91_code 4 (some .long) ∈ kt_T := List.mem_filter.mpr ⟨kc_tables_1_8 _ (List.mem_of_getElem? (i := 26) rfl), rfl⟩
set_option maxRecDepth 20000 in
theorem kw_951 : Cond.methodLink "KettleChoirModel" 448 ⟨"KettleChoirModel", "choir", "()J"⟩ ∈ kt_T := List.mem_filter.mpr ⟨kc_tables_1_8 _ (List.mem_of_getElem? (i := 23) rfl), rfl⟩
set_option maxRecDepth 20000 in
theorem kw_952 : Cond.instanceMethod ⟨"KettleChoirModel", "choir", "()J"⟩ ∈ kt_T := List.mem_filter.mpr ⟨kc_tables_1_8 _ (List.mem_of_getElem? (i := 25) rfl), rfl⟩
set_option maxRecDepth 20000 in
theorem kw_953 : Cond.selects "KettleChoirModel" ⟨"KettleChoirModel", "choir", "()J"⟩ ⟨"KettleChoirModel", "choir", "()J"⟩ ∈ kt_T := List.mem_filter.mpr ⟨kc_lw_privs_8 (⟨"KettleChoirModel", "choir", "()J"⟩, 58) (List.mem_of_getElem? (i := 3) rfl), rfl⟩
set_option maxRecDepth 20000 in
theorem kw_954 : Cond.code ⟨"KettleChoirModel", "tellChoirs", "()V"⟩ prog_12_method_92_code 3 none ∈ kt_T := List.mem_filter.mpr ⟨kc_tables_1_8 _ (List.mem_of_getElem? (i := 22) rfl), rfl⟩
set_option maxRecDepth 20000 in
theorem kw_955 : Cond.code ⟨"KettleChoirModel", "unlike", "(I)I"⟩ prog_12_method_93_code 6 (some .int) ∈ kt_T := List.mem_filter.mpr ⟨kc_tables_1_8 _ (List.mem_of_getElem? (i := 30) rfl), rfl⟩
set_option maxRecDepth 20000 in
theorem kw_956 : Cond.methodLink "KettleChoirModel" 452 ⟨"KettleChoirModel", "tellChoirs", "()V"⟩ ∈ kt_T := List.mem_filter.mpr ⟨kc_tables_1_8 _ (List.mem_of_getElem? (i := 19) rfl), rfl⟩
set_option maxRecDepth 20000 in
theorem kw_957 : Cond.instanceMethod ⟨"KettleChoirModel", "tellChoirs", "()V"⟩ ∈ kt_T := List.mem_filter.mpr ⟨kc_tables_1_8 _ (List.mem_of_getElem? (i := 21) rfl), rfl⟩
set_option maxRecDepth 20000 in
theorem kw_958 : Cond.selects "KettleChoirModel" ⟨"KettleChoirModel", "tellChoirs", "()V"⟩ ⟨"KettleChoirModel", "tellChoirs", "()V"⟩ ∈ kt_T := List.mem_filter.mpr ⟨kc_lw_privs_8 (⟨"KettleChoirModel", "tellChoirs", "()V"⟩, 58) (List.mem_of_getElem? (i := 2) rfl), rfl⟩
set_option maxRecDepth 20000 in
theorem kw_959 : Cond.methodLink "KettleChoirModel" 455 ⟨"KettleChoirModel", "unlike", "(I)I"⟩ ∈ kt_T := List.mem_filter.mpr ⟨kc_tables_1_8 _ (List.mem_of_getElem? (i := 27) rfl), rfl⟩
set_option maxRecDepth 20000 in
theorem kw_960 : Cond.instanceMethod ⟨"KettleChoirModel", "unlike", "(I)I"⟩ ∈ kt_T := List.mem_filter.mpr ⟨kc_tables_1_8 _ (List.mem_of_getElem? (i := 29) rfl), rfl⟩
set_option maxRecDepth 20000 in
theorem kw_961 : Cond.selects "KettleChoirModel" ⟨"KettleChoirModel", "unlike", "(I)I"⟩ ⟨"KettleChoirModel", "unlike", "(I)I"⟩ ∈ kt_T := List.mem_filter.mpr ⟨kc_lw_privs_8 (⟨"KettleChoirModel", "unlike", "(I)I"⟩, 58) (List.mem_of_getElem? (i := 4) rfl), rfl⟩
set_option maxRecDepth 20000 in
theorem kw_962 : Cond.code ⟨"KettleChoirModel", "listen", "(I)I"⟩ prog_12_method_94_code 6 (some .int) ∈ kt_T := List.mem_filter.mpr ⟨kc_tables_1_8 _ (List.mem_of_getElem? (i := 18) rfl), rfl⟩
set_option maxRecDepth 20000 in
theorem kw_963 : Cond.code ⟨"KettleChoirModel", "forget", "()V"⟩ prog_12_method_95_code 1 none ∈ kt_T := List.mem_filter.mpr ⟨kc_tables_1_8 _ (List.mem_of_getElem? (i := 34) rfl), rfl⟩
set_option maxRecDepth 20000 in
theorem kw_964 : Cond.code ⟨"KettleChoirModel", "gain", "(II)I"⟩ prog_12_method_96_code 4 (some .int) ∈ kt_T := List.mem_filter.mpr ⟨kc_tables_1_8 _ (List.mem_of_getElem? (i := 42) rfl), rfl⟩
set_option maxRecDepth 20000 in
theorem kw_965 : Cond.methodLink "KettleChoirModel" 458 ⟨"KettleChoirModel", "gain", "(II)I"⟩ ∈ kt_T := List.mem_filter.mpr ⟨kc_tables_1_8 _ (List.mem_of_getElem? (i := 39) rfl), rfl⟩
set_option maxRecDepth 20000 in
theorem kw_966 : Cond.instanceMethod ⟨"KettleChoirModel", "gain", "(II)I"⟩ ∈ kt_T := List.mem_filter.mpr ⟨kc_tables_1_8 _ (List.mem_of_getElem? (i := 41) rfl), rfl⟩
set_option maxRecDepth 20000 in
theorem kw_967 : Cond.selects "KettleChoirModel" ⟨"KettleChoirModel", "gain", "(II)I"⟩ ⟨"KettleChoirModel", "gain", "(II)I"⟩ ∈ kt_T := List.mem_filter.mpr ⟨kc_lw_privs_8 (⟨"KettleChoirModel", "gain", "(II)I"⟩, 58) (List.mem_of_getElem? (i := 5) rfl), rfl⟩
set_option maxRecDepth 20000 in
theorem kw_968 : Cond.code ⟨"KettleChoirModel", "game", "(III)I"⟩ prog_12_method_97_code 9 (some .int) ∈ kt_T := List.mem_filter.mpr ⟨kc_tables_1_8 _ (List.mem_of_getElem? (i := 38) rfl), rfl⟩
set_option maxRecDepth 20000 in
theorem kw_969 : Cond.fieldLink "KettleChoirModel" 461 "KettleChoirModel" "seedNow" "I" ∈ kt_T := List.mem_filter.mpr ⟨kc_tables_1_5 _ (List.mem_of_getElem? (i := 238) rfl), rfl⟩
set_option maxRecDepth 20000 in
theorem kw_970 : Cond.constant "KettleChoirModel" 464 (1103515245 : Int32) ∈ kt_T := List.mem_filter.mpr ⟨kc_tables_1_8 _ (List.mem_of_getElem? (i := 56) rfl), rfl⟩
set_option maxRecDepth 20000 in
theorem kw_971 : Cond.code ⟨"KettleChoirModel", "drawOf", "(I)I"⟩ prog_12_method_98_code 2 (some .int) ∈ kt_T := List.mem_filter.mpr ⟨kc_tables_1_8 _ (List.mem_of_getElem? (i := 55) rfl), rfl⟩
set_option maxRecDepth 20000 in
theorem kw_972 : Cond.methodLink "KettleChoirModel" 465 ⟨"KettleChoirModel", "drawOf", "(I)I"⟩ ∈ kt_T := List.mem_filter.mpr ⟨kc_tables_1_8 _ (List.mem_of_getElem? (i := 52) rfl), rfl⟩
set_option maxRecDepth 20000 in
theorem kw_973 : Cond.instanceMethod ⟨"KettleChoirModel", "drawOf", "(I)I"⟩ ∈ kt_T := List.mem_filter.mpr ⟨kc_tables_1_8 _ (List.mem_of_getElem? (i := 54) rfl), rfl⟩
set_option maxRecDepth 20000 in
theorem kw_974 : Cond.selects "KettleChoirModel" ⟨"KettleChoirModel", "drawOf", "(I)I"⟩ ⟨"KettleChoirModel", "drawOf", "(I)I"⟩ ∈ kt_T := List.mem_filter.mpr ⟨kc_lw_privs_8 (⟨"KettleChoirModel", "drawOf", "(I)I"⟩, 58) (List.mem_of_getElem? (i := 7) rfl), rfl⟩
set_option maxRecDepth 20000 in
theorem kw_975 : Cond.code ⟨"KettleChoirModel", "something", "()V"⟩ prog_12_method_99_code 4 none ∈ kt_T := List.mem_filter.mpr ⟨kc_tables_1_8 _ (List.mem_of_getElem? (i := 51) rfl), rfl⟩
set_option maxRecDepth 20000 in
theorem kw_976 : Cond.constantLong "KettleChoirModel" 468 (90 : Int64) ∈ kt_T := List.mem_filter.mpr ⟨kc_tables_1_8 _ (List.mem_of_getElem? (i := 47) rfl), rfl⟩
set_option maxRecDepth 20000 in
theorem kw_977 : Cond.methodLink "KettleChoirModel" 470 ⟨"KettleChoirModel", "something", "()V"⟩ ∈ kt_T := List.mem_filter.mpr ⟨kc_tables_1_8 _ (List.mem_of_getElem? (i := 48) rfl), rfl⟩
set_option maxRecDepth 20000 in
theorem kw_978 : Cond.instanceMethod ⟨"KettleChoirModel", "something", "()V"⟩ ∈ kt_T := List.mem_filter.mpr ⟨kc_tables_1_8 _ (List.mem_of_getElem? (i := 50) rfl), rfl⟩
set_option maxRecDepth 20000 in
theorem kw_979 : Cond.selects "KettleChoirModel" ⟨"KettleChoirModel", "something", "()V"⟩ ⟨"KettleChoirModel", "something", "()V"⟩ ∈ kt_T := List.mem_filter.mpr ⟨kc_lw_privs_8 (⟨"KettleChoirModel", "something", "()V"⟩, 58) (List.mem_of_getElem? (i := 6) rfl), rfl⟩
set_option maxRecDepth 20000 in
theorem kw_980 : Cond.code ⟨"KettleChoirModel", "evening", "(III)I"⟩ prog_12_method_100_code 8 (some .int) ∈ kt_T := List.mem_filter.mpr ⟨kc_tables_1_8 _ (List.mem_of_getElem? (i := 46) rfl), rfl⟩
set_option maxRecDepth 20000 in
theorem kw_981 : Cond.code ⟨"KettleChoirModel", "be", "([I[I)V"⟩ prog_12_method_101_code 3 none ∈ kt_T := List.mem_filter.mpr ⟨kc_tables_1_8 _ (List.mem_of_getElem? (i := 63) rfl), rfl⟩
set_option maxRecDepth 20000 in
theorem kw_982 : Cond.fieldLink "KettleChoirModel" 473 "KettleChoirModel" "actsThen" "I" ∈ kt_T := List.mem_filter.mpr ⟨kc_tables_1_6 _ (List.mem_of_getElem? (i := 0) rfl), rfl⟩
set_option maxRecDepth 20000 in
theorem kw_983 : Cond.fieldLink "KettleChoirModel" 476 "KettleChoirModel" "heardThen" "I" ∈ kt_T := List.mem_filter.mpr ⟨kc_tables_1_6 _ (List.mem_of_getElem? (i := 1) rfl), rfl⟩
set_option maxRecDepth 20000 in
theorem kw_984 : Cond.methodLink "KettleChoirModel" 479 ⟨"KettleChoirModel", "be", "([I[I)V"⟩ ∈ kt_T := List.mem_filter.mpr ⟨kc_tables_1_8 _ (List.mem_of_getElem? (i := 61) rfl), rfl⟩
set_option maxRecDepth 20000 in
theorem kw_985 : Cond.static ⟨"KettleChoirModel", "be", "([I[I)V"⟩ ∈ kt_T := List.mem_filter.mpr ⟨kc_tables_1_8 _ (List.mem_of_getElem? (i := 62) rfl), rfl⟩
set_option maxRecDepth 20000 in
theorem kw_986 : Cond.code ⟨"KettleChoirModel", "image", "()V"⟩ prog_12_method_102_code 1 none ∈ kt_T := List.mem_filter.mpr ⟨kc_tables_1_8 _ (List.mem_of_getElem? (i := 60) rfl), rfl⟩
set_option maxRecDepth 20000 in
theorem kw_987 : Cond.code ⟨"KettleChoirModel", "restore", "()Z"⟩ prog_12_method_103_code 1 (some .boolean) ∈ kt_T := List.mem_filter.mpr ⟨kc_tables_1_8 _ (List.mem_of_getElem? (i := 67) rfl), rfl⟩
set_option maxRecDepth 20000 in
theorem kw_988 : Cond.constant "java/lang/Integer" 265 (1431655765 : Int32) ∈ kt_T := List.mem_filter.mpr ⟨kc_tables_1_5 _ (List.mem_of_getElem? (i := 167) rfl), rfl⟩
set_option maxRecDepth 20000 in
theorem kw_989 : Cond.constant "java/lang/Integer" 266 (858993459 : Int32) ∈ kt_T := List.mem_filter.mpr ⟨kc_tables_1_5 _ (List.mem_of_getElem? (i := 168) rfl), rfl⟩
set_option maxRecDepth 20000 in
theorem kw_990 : Cond.constant "java/lang/Integer" 267 (252645135 : Int32) ∈ kt_T := List.mem_filter.mpr ⟨kc_tables_1_5 _ (List.mem_of_getElem? (i := 169) rfl), rfl⟩
set_option maxRecDepth 20000 in
theorem kw_991 : Cond.initialized "java/lang/Integer" ∈ kt_T := List.mem_filter.mpr ⟨kc_tables_1_1 _ (List.mem_of_getElem? (i := 23) rfl), rfl⟩
set_option maxRecDepth 20000 in
theorem kw_992 : Cond.code ⟨"java/lang/Integer", "bitCount", "(I)I"⟩ prog_18_method_49_code 1 (some .int) ∈ kt_T := List.mem_filter.mpr ⟨kc_tables_1_5 _ (List.mem_of_getElem? (i := 166) rfl), rfl⟩
set_option maxRecDepth 20000 in
theorem kw_993 : Cond.initialized "java/util/Arrays" ∈ kt_T := List.mem_filter.mpr ⟨kc_tables_1_1 _ (List.mem_of_getElem? (i := 21) rfl), rfl⟩
set_option maxRecDepth 20000 in
theorem kw_994 : Cond.code ⟨"java/util/Arrays", "fill", "([II)V"⟩ prog_28_method_103_code 4 none ∈ kt_T := List.mem_filter.mpr ⟨kc_tables_1_4 _ (List.mem_of_getElem? (i := 51) rfl), rfl⟩
set_option maxRecDepth 20000 in
theorem kw_995 : Cond.methodLink "KettleChoirLaw" 7 ⟨"KettleChoir", "kitchen", "(I)I"⟩ ∈ kt_T := List.mem_filter.mpr ⟨kc_tables_1_3 _ (List.mem_of_getElem? (i := 35) rfl), rfl⟩
set_option maxRecDepth 20000 in
theorem kw_996 : Cond.instanceMethod ⟨"KettleChoir", "kitchen", "(I)I"⟩ ∈ kt_T := List.mem_filter.mpr ⟨kc_tables_1_3 _ (List.mem_of_getElem? (i := 36) rfl), rfl⟩
set_option maxRecDepth 20000 in
theorem kw_997 : Cond.selects "KettleChoir" ⟨"KettleChoir", "kitchen", "(I)I"⟩ ⟨"KettleChoir", "kitchen", "(I)I"⟩ ∈ kt_T := List.mem_filter.mpr ⟨kc_tables_1_3 _ (List.mem_of_getElem? (i := 37) rfl), rfl⟩
set_option maxRecDepth 20000 in
theorem kw_998 : Cond.initialized "KettleChoirLaw" ∈ kt_T := List.mem_filter.mpr ⟨kc_tables_1_1 _ (List.mem_of_getElem? (i := 0) rfl), rfl⟩
set_option maxRecDepth 20000 in
theorem kw_999 : Cond.codeWith ⟨"KettleChoirLaw", "kitchen", "(LKettleChoir;I[J)I"⟩ method_3_code 4 (some .int) [(0, 9, 12, 13)] ∈ kt_T := List.mem_filter.mpr ⟨kc_tables_1_3 _ (List.mem_of_getElem? (i := 33) rfl), rfl⟩
set_option maxRecDepth 20000 in
theorem kw_1000 : Cond.classLink "KettleChoirLaw" 13 "java/lang/IllegalArgumentException" ∈ kt_T := List.mem_filter.mpr ⟨kc_tables_1_3 _ (List.mem_of_getElem? (i := 34) rfl), rfl⟩
set_option maxRecDepth 20000 in
theorem kw_1001 : Cond.methodLink "KettleChoirLaw" 15 ⟨"KettleChoir", "count", "(I)I"⟩ ∈ kt_T := List.mem_filter.mpr ⟨kc_tables_1_4 _ (List.mem_of_getElem? (i := 60) rfl), rfl⟩
set_option maxRecDepth 20000 in
theorem kw_1002 : Cond.instanceMethod ⟨"KettleChoir", "count", "(I)I"⟩ ∈ kt_T := List.mem_filter.mpr ⟨kc_tables_1_4 _ (List.mem_of_getElem? (i := 61) rfl), rfl⟩
set_option maxRecDepth 20000 in
theorem kw_1003 : Cond.selects "KettleChoir" ⟨"KettleChoir", "count", "(I)I"⟩ ⟨"KettleChoir", "count", "(I)I"⟩ ∈ kt_T := List.mem_filter.mpr ⟨kc_tables_1_4 _ (List.mem_of_getElem? (i := 62) rfl), rfl⟩
set_option maxRecDepth 20000 in
theorem kw_1004 : Cond.codeWith ⟨"KettleChoirLaw", "count", "(LKettleChoir;I[J)I"⟩ method_4_code 4 (some .int) [(0, 9, 12, 18)] ∈ kt_T := List.mem_filter.mpr ⟨kc_tables_1_4 _ (List.mem_of_getElem? (i := 58) rfl), rfl⟩
set_option maxRecDepth 20000 in
theorem kw_1005 : Cond.classLink "KettleChoirLaw" 18 "java/util/NoSuchElementException" ∈ kt_T := List.mem_filter.mpr ⟨kc_tables_1_4 _ (List.mem_of_getElem? (i := 59) rfl), rfl⟩
set_option maxRecDepth 20000 in
theorem kw_1006 : Cond.methodLink "KettleChoirLaw" 20 ⟨"KettleChoir", "kettle", "(II)I"⟩ ∈ kt_T := List.mem_filter.mpr ⟨kc_tables_1_4 _ (List.mem_of_getElem? (i := 102) rfl), rfl⟩
set_option maxRecDepth 20000 in
theorem kw_1007 : Cond.instanceMethod ⟨"KettleChoir", "kettle", "(II)I"⟩ ∈ kt_T := List.mem_filter.mpr ⟨kc_tables_1_4 _ (List.mem_of_getElem? (i := 103) rfl), rfl⟩
set_option maxRecDepth 20000 in
theorem kw_1008 : Cond.selects "KettleChoir" ⟨"KettleChoir", "kettle", "(II)I"⟩ ⟨"KettleChoir", "kettle", "(II)I"⟩ ∈ kt_T := List.mem_filter.mpr ⟨kc_tables_1_4 _ (List.mem_of_getElem? (i := 104) rfl), rfl⟩
set_option maxRecDepth 20000 in
theorem kw_1009 : Cond.codeWith ⟨"KettleChoirLaw", "kettle", "(LKettleChoir;II[J)I"⟩ method_5_code 5 (some .int) [(0, 10, 13, 18)] ∈ kt_T := List.mem_filter.mpr ⟨kc_tables_1_4 _ (List.mem_of_getElem? (i := 101) rfl), rfl⟩
set_option maxRecDepth 20000 in
theorem kw_1010 : Cond.methodLink "KettleChoirLaw" 24 ⟨"KettleChoir", "stove", "(II)I"⟩ ∈ kt_T := List.mem_filter.mpr ⟨kc_tables_1_4 _ (List.mem_of_getElem? (i := 115) rfl), rfl⟩
set_option maxRecDepth 20000 in
theorem kw_1011 : Cond.instanceMethod ⟨"KettleChoir", "stove", "(II)I"⟩ ∈ kt_T := List.mem_filter.mpr ⟨kc_tables_1_4 _ (List.mem_of_getElem? (i := 116) rfl), rfl⟩
set_option maxRecDepth 20000 in
theorem kw_1012 : Cond.selects "KettleChoir" ⟨"KettleChoir", "stove", "(II)I"⟩ ⟨"KettleChoir", "stove", "(II)I"⟩ ∈ kt_T := List.mem_filter.mpr ⟨kc_tables_1_4 _ (List.mem_of_getElem? (i := 117) rfl), rfl⟩
set_option maxRecDepth 20000 in
theorem kw_1013 : Cond.codeWith ⟨"KettleChoirLaw", "stove", "(LKettleChoir;II[J)I"⟩ method_6_code 5 (some .int) [(0, 10, 13, 18)] ∈ kt_T := List.mem_filter.mpr ⟨kc_tables_1_4 _ (List.mem_of_getElem? (i := 114) rfl), rfl⟩
set_option maxRecDepth 20000 in
theorem kw_1014 : Cond.methodLink "KettleChoirLaw" 27 ⟨"KettleChoir", "dish", "(II)I"⟩ ∈ kt_T := List.mem_filter.mpr ⟨kc_tables_1_4 _ (List.mem_of_getElem? (i := 132) rfl), rfl⟩
set_option maxRecDepth 20000 in
theorem kw_1015 : Cond.instanceMethod ⟨"KettleChoir", "dish", "(II)I"⟩ ∈ kt_T := List.mem_filter.mpr ⟨kc_tables_1_4 _ (List.mem_of_getElem? (i := 133) rfl), rfl⟩
set_option maxRecDepth 20000 in
theorem kw_1016 : Cond.selects "KettleChoir" ⟨"KettleChoir", "dish", "(II)I"⟩ ⟨"KettleChoir", "dish", "(II)I"⟩ ∈ kt_T := List.mem_filter.mpr ⟨kc_tables_1_4 _ (List.mem_of_getElem? (i := 134) rfl), rfl⟩
set_option maxRecDepth 20000 in
theorem kw_1017 : Cond.codeWith ⟨"KettleChoirLaw", "dish", "(LKettleChoir;II[J)I"⟩ method_7_code 5 (some .int) [(0, 10, 13, 18)] ∈ kt_T := List.mem_filter.mpr ⟨kc_tables_1_4 _ (List.mem_of_getElem? (i := 131) rfl), rfl⟩
set_option maxRecDepth 20000 in
theorem kw_1018 : Cond.methodLink "KettleChoirLaw" 30 ⟨"KettleChoir", "put", "(II)Z"⟩ ∈ kt_T := List.mem_filter.mpr ⟨kc_tables_1_4 _ (List.mem_of_getElem? (i := 145) rfl), rfl⟩
set_option maxRecDepth 20000 in
theorem kw_1019 : Cond.instanceMethod ⟨"KettleChoir", "put", "(II)Z"⟩ ∈ kt_T := List.mem_filter.mpr ⟨kc_tables_1_4 _ (List.mem_of_getElem? (i := 146) rfl), rfl⟩
set_option maxRecDepth 20000 in
theorem kw_1020 : Cond.selects "KettleChoir" ⟨"KettleChoir", "put", "(II)Z"⟩ ⟨"KettleChoir", "put", "(II)Z"⟩ ∈ kt_T := List.mem_filter.mpr ⟨kc_tables_1_4 _ (List.mem_of_getElem? (i := 147) rfl), rfl⟩
set_option maxRecDepth 20000 in
theorem kw_1021 : Cond.codeWith ⟨"KettleChoirLaw", "put", "(LKettleChoir;II[J)I"⟩ method_8_code 5 (some .int) [(0, 17, 20, 18)] ∈ kt_T := List.mem_filter.mpr ⟨kc_tables_1_4 _ (List.mem_of_getElem? (i := 144) rfl), rfl⟩
set_option maxRecDepth 20000 in
theorem kw_1022 : Cond.methodLink "KettleChoirLaw" 34 ⟨"KettleChoir", "lift", "(I)I"⟩ ∈ kt_T := List.mem_filter.mpr ⟨kc_tables_1_4 _ (List.mem_of_getElem? (i := 152) rfl), rfl⟩
set_option maxRecDepth 20000 in
theorem kw_1023 : Cond.instanceMethod ⟨"KettleChoir", "lift", "(I)I"⟩ ∈ kt_T := List.mem_filter.mpr ⟨kc_tables_1_4 _ (List.mem_of_getElem? (i := 153) rfl), rfl⟩
set_option maxRecDepth 20000 in
theorem kw_1024 : Cond.selects "KettleChoir" ⟨"KettleChoir", "lift", "(I)I"⟩ ⟨"KettleChoir", "lift", "(I)I"⟩ ∈ kt_T := List.mem_filter.mpr ⟨kc_tables_1_4 _ (List.mem_of_getElem? (i := 154) rfl), rfl⟩
set_option maxRecDepth 20000 in
theorem kw_1025 : Cond.codeWith ⟨"KettleChoirLaw", "lift", "(LKettleChoir;I[J)I"⟩ method_9_code 4 (some .int) [(0, 9, 12, 18)] ∈ kt_T := List.mem_filter.mpr ⟨kc_tables_1_4 _ (List.mem_of_getElem? (i := 151) rfl), rfl⟩
set_option maxRecDepth 20000 in
theorem kw_1026 : Cond.methodLink "KettleChoirLaw" 37 ⟨"KettleChoir", "pour", "(II)I"⟩ ∈ kt_T := List.mem_filter.mpr ⟨kc_tables_1_4 _ (List.mem_of_getElem? (i := 159) rfl), rfl⟩
set_option maxRecDepth 20000 in
theorem kw_1027 : Cond.instanceMethod ⟨"KettleChoir", "pour", "(II)I"⟩ ∈ kt_T := List.mem_filter.mpr ⟨kc_tables_1_4 _ (List.mem_of_getElem? (i := 160) rfl), rfl⟩
set_option maxRecDepth 20000 in
theorem kw_1028 : Cond.selects "KettleChoir" ⟨"KettleChoir", "pour", "(II)I"⟩ ⟨"KettleChoir", "pour", "(II)I"⟩ ∈ kt_T := List.mem_filter.mpr ⟨kc_tables_1_4 _ (List.mem_of_getElem? (i := 161) rfl), rfl⟩
set_option maxRecDepth 20000 in
theorem kw_1029 : Cond.codeWith ⟨"KettleChoirLaw", "pour", "(LKettleChoir;II[J)I"⟩ method_10_code 5 (some .int) [(0, 10, 13, 18)] ∈ kt_T := List.mem_filter.mpr ⟨kc_tables_1_4 _ (List.mem_of_getElem? (i := 158) rfl), rfl⟩
set_option maxRecDepth 20000 in
theorem kw_1030 : Cond.methodLink "KettleChoirLaw" 40 ⟨"KettleChoir", "scrape", "(I)I"⟩ ∈ kt_T := List.mem_filter.mpr ⟨kc_tables_1_4 _ (List.mem_of_getElem? (i := 166) rfl), rfl⟩
set_option maxRecDepth 20000 in
theorem kw_1031 : Cond.instanceMethod ⟨"KettleChoir", "scrape", "(I)I"⟩ ∈ kt_T := List.mem_filter.mpr ⟨kc_tables_1_4 _ (List.mem_of_getElem? (i := 167) rfl), rfl⟩
set_option maxRecDepth 20000 in
theorem kw_1032 : Cond.selects "KettleChoir" ⟨"KettleChoir", "scrape", "(I)I"⟩ ⟨"KettleChoir", "scrape", "(I)I"⟩ ∈ kt_T := List.mem_filter.mpr ⟨kc_tables_1_4 _ (List.mem_of_getElem? (i := 168) rfl), rfl⟩
set_option maxRecDepth 20000 in
theorem kw_1033 : Cond.codeWith ⟨"KettleChoirLaw", "scrape", "(LKettleChoir;I[J)I"⟩ method_11_code 4 (some .int) [(0, 9, 12, 18)] ∈ kt_T := List.mem_filter.mpr ⟨kc_tables_1_4 _ (List.mem_of_getElem? (i := 165) rfl), rfl⟩
set_option maxRecDepth 20000 in
theorem kw_1034 : Cond.methodLink "KettleChoirLaw" 43 ⟨"KettleChoir", "then", "(II)I"⟩ ∈ kt_T := List.mem_filter.mpr ⟨kc_tables_1_4 _ (List.mem_of_getElem? (i := 173) rfl), rfl⟩
set_option maxRecDepth 20000 in
theorem kw_1035 : Cond.instanceMethod ⟨"KettleChoir", "then", "(II)I"⟩ ∈ kt_T := List.mem_filter.mpr ⟨kc_tables_1_4 _ (List.mem_of_getElem? (i := 174) rfl), rfl⟩
set_option maxRecDepth 20000 in
theorem kw_1036 : Cond.selects "KettleChoir" ⟨"KettleChoir", "then", "(II)I"⟩ ⟨"KettleChoir", "then", "(II)I"⟩ ∈ kt_T := List.mem_filter.mpr ⟨kc_tables_1_4 _ (List.mem_of_getElem? (i := 175) rfl), rfl⟩
set_option maxRecDepth 20000 in
theorem kw_1037 : Cond.codeWith ⟨"KettleChoirLaw", "then", "(LKettleChoir;II[J)I"⟩ method_12_code 5 (some .int) [(0, 10, 13, 18), (0, 10, 17, 13)] ∈ kt_T := List.mem_filter.mpr ⟨kc_tables_1_4 _ (List.mem_of_getElem? (i := 172) rfl), rfl⟩
set_option maxRecDepth 20000 in
theorem kw_1038 : Cond.methodLink "KettleChoirLaw" 46 ⟨"KettleChoir", "sung", "(I)I"⟩ ∈ kt_T := List.mem_filter.mpr ⟨kc_tables_1_4 _ (List.mem_of_getElem? (i := 185) rfl), rfl⟩
set_option maxRecDepth 20000 in
theorem kw_1039 : Cond.instanceMethod ⟨"KettleChoir", "sung", "(I)I"⟩ ∈ kt_T := List.mem_filter.mpr ⟨kc_tables_1_4 _ (List.mem_of_getElem? (i := 186) rfl), rfl⟩
set_option maxRecDepth 20000 in
theorem kw_1040 : Cond.selects "KettleChoir" ⟨"KettleChoir", "sung", "(I)I"⟩ ⟨"KettleChoir", "sung", "(I)I"⟩ ∈ kt_T := List.mem_filter.mpr ⟨kc_tables_1_4 _ (List.mem_of_getElem? (i := 187) rfl), rfl⟩
set_option maxRecDepth 20000 in
theorem kw_1041 : Cond.codeWith ⟨"KettleChoirLaw", "sung", "(LKettleChoir;I[J)I"⟩ method_13_code 4 (some .int) [(0, 9, 12, 18)] ∈ kt_T := List.mem_filter.mpr ⟨kc_tables_1_4 _ (List.mem_of_getElem? (i := 184) rfl), rfl⟩
set_option maxRecDepth 20000 in
theorem kw_1042 : Cond.methodLink "KettleChoirLaw" 49 ⟨"KettleChoir", "done", "(I)I"⟩ ∈ kt_T := List.mem_filter.mpr ⟨kc_tables_1_4 _ (List.mem_of_getElem? (i := 192) rfl), rfl⟩
set_option maxRecDepth 20000 in
theorem kw_1043 : Cond.instanceMethod ⟨"KettleChoir", "done", "(I)I"⟩ ∈ kt_T := List.mem_filter.mpr ⟨kc_tables_1_4 _ (List.mem_of_getElem? (i := 193) rfl), rfl⟩
set_option maxRecDepth 20000 in
theorem kw_1044 : Cond.selects "KettleChoir" ⟨"KettleChoir", "done", "(I)I"⟩ ⟨"KettleChoir", "done", "(I)I"⟩ ∈ kt_T := List.mem_filter.mpr ⟨kc_tables_1_4 _ (List.mem_of_getElem? (i := 194) rfl), rfl⟩
set_option maxRecDepth 20000 in
theorem kw_1045 : Cond.codeWith ⟨"KettleChoirLaw", "done", "(LKettleChoir;I[J)I"⟩ method_14_code 4 (some .int) [(0, 9, 12, 18)] ∈ kt_T := List.mem_filter.mpr ⟨kc_tables_1_4 _ (List.mem_of_getElem? (i := 191) rfl), rfl⟩
set_option maxRecDepth 20000 in
theorem kw_1046 : Cond.methodLink "KettleChoirLaw" 52 ⟨"KettleChoir", "fugue", "(I)I"⟩ ∈ kt_T := List.mem_filter.mpr ⟨kc_tables_1_4 _ (List.mem_of_getElem? (i := 199) rfl), rfl⟩
set_option maxRecDepth 20000 in
theorem kw_1047 : Cond.instanceMethod ⟨"KettleChoir", "fugue", "(I)I"⟩ ∈ kt_T := List.mem_filter.mpr ⟨kc_tables_1_4 _ (List.mem_of_getElem? (i := 200) rfl), rfl⟩
set_option maxRecDepth 20000 in
theorem kw_1048 : Cond.selects "KettleChoir" ⟨"KettleChoir", "fugue", "(I)I"⟩ ⟨"KettleChoir", "fugue", "(I)I"⟩ ∈ kt_T := List.mem_filter.mpr ⟨kc_tables_1_4 _ (List.mem_of_getElem? (i := 201) rfl), rfl⟩
set_option maxRecDepth 20000 in
theorem kw_1049 : Cond.codeWith ⟨"KettleChoirLaw", "fugue", "(LKettleChoir;I[J)I"⟩ method_15_code 4 (some .int) [(0, 9, 12, 13)] ∈ kt_T := List.mem_filter.mpr ⟨kc_tables_1_4 _ (List.mem_of_getElem? (i := 198) rfl), rfl⟩
set_option maxRecDepth 20000 in
theorem kw_1050 : Cond.methodLink "KettleChoirLaw" 55 ⟨"KettleChoir", "loudest", "(I)I"⟩ ∈ kt_T := List.mem_filter.mpr ⟨kc_tables_1_4 _ (List.mem_of_getElem? (i := 207) rfl), rfl⟩
set_option maxRecDepth 20000 in
theorem kw_1051 : Cond.instanceMethod ⟨"KettleChoir", "loudest", "(I)I"⟩ ∈ kt_T := List.mem_filter.mpr ⟨kc_tables_1_4 _ (List.mem_of_getElem? (i := 208) rfl), rfl⟩
set_option maxRecDepth 20000 in
theorem kw_1052 : Cond.selects "KettleChoir" ⟨"KettleChoir", "loudest", "(I)I"⟩ ⟨"KettleChoir", "loudest", "(I)I"⟩ ∈ kt_T := List.mem_filter.mpr ⟨kc_tables_1_4 _ (List.mem_of_getElem? (i := 209) rfl), rfl⟩
set_option maxRecDepth 20000 in
theorem kw_1053 : Cond.codeWith ⟨"KettleChoirLaw", "loudest", "(LKettleChoir;I[J)I"⟩ method_16_code 4 (some .int) [(0, 9, 12, 18)] ∈ kt_T := List.mem_filter.mpr ⟨kc_tables_1_4 _ (List.mem_of_getElem? (i := 206) rfl), rfl⟩
set_option maxRecDepth 20000 in
theorem kw_1054 : Cond.methodLink "KettleChoirLaw" 58 ⟨"KettleChoir", "dry", "(I)I"⟩ ∈ kt_T := List.mem_filter.mpr ⟨kc_tables_1_4 _ (List.mem_of_getElem? (i := 215) rfl), rfl⟩
set_option maxRecDepth 20000 in
theorem kw_1055 : Cond.instanceMethod ⟨"KettleChoir", "dry", "(I)I"⟩ ∈ kt_T := List.mem_filter.mpr ⟨kc_tables_1_4 _ (List.mem_of_getElem? (i := 216) rfl), rfl⟩
set_option maxRecDepth 20000 in
theorem kw_1056 : Cond.selects "KettleChoir" ⟨"KettleChoir", "dry", "(I)I"⟩ ⟨"KettleChoir", "dry", "(I)I"⟩ ∈ kt_T := List.mem_filter.mpr ⟨kc_tables_1_4 _ (List.mem_of_getElem? (i := 217) rfl), rfl⟩
set_option maxRecDepth 20000 in
theorem kw_1057 : Cond.codeWith ⟨"KettleChoirLaw", "dry", "(LKettleChoir;I[J)I"⟩ method_17_code 4 (some .int) [(0, 9, 12, 18)] ∈ kt_T := List.mem_filter.mpr ⟨kc_tables_1_4 _ (List.mem_of_getElem? (i := 214) rfl), rfl⟩
set_option maxRecDepth 20000 in
theorem kw_1058 : Cond.methodLink "KettleChoirLaw" 61 ⟨"KettleChoir", "soonest", "(II)I"⟩ ∈ kt_T := List.mem_filter.mpr ⟨kc_tables_1_4 _ (List.mem_of_getElem? (i := 222) rfl), rfl⟩
set_option maxRecDepth 20000 in
theorem kw_1059 : Cond.instanceMethod ⟨"KettleChoir", "soonest", "(II)I"⟩ ∈ kt_T := List.mem_filter.mpr ⟨kc_tables_1_4 _ (List.mem_of_getElem? (i := 223) rfl), rfl⟩
set_option maxRecDepth 20000 in
theorem kw_1060 : Cond.selects "KettleChoir" ⟨"KettleChoir", "soonest", "(II)I"⟩ ⟨"KettleChoir", "soonest", "(II)I"⟩ ∈ kt_T := List.mem_filter.mpr ⟨kc_tables_1_4 _ (List.mem_of_getElem? (i := 224) rfl), rfl⟩
set_option maxRecDepth 20000 in
theorem kw_1061 : Cond.codeWith ⟨"KettleChoirLaw", "soonest", "(LKettleChoir;II[J)I"⟩ method_18_code 5 (some .int) [(0, 10, 13, 18)] ∈ kt_T := List.mem_filter.mpr ⟨kc_tables_1_4 _ (List.mem_of_getElem? (i := 221) rfl), rfl⟩
set_option maxRecDepth 20000 in
theorem kw_1062 : Cond.methodLink "KettleChoirLaw" 64 ⟨"KettleChoir", "tuned", "(II)I"⟩ ∈ kt_T := List.mem_filter.mpr ⟨kc_tables_1_5 _ (List.mem_of_getElem? (i := 17) rfl), rfl⟩
set_option maxRecDepth 20000 in
theorem kw_1063 : Cond.instanceMethod ⟨"KettleChoir", "tuned", "(II)I"⟩ ∈ kt_T := List.mem_filter.mpr ⟨kc_tables_1_5 _ (List.mem_of_getElem? (i := 18) rfl), rfl⟩
set_option maxRecDepth 20000 in
theorem kw_1064 : Cond.selects "KettleChoir" ⟨"KettleChoir", "tuned", "(II)I"⟩ ⟨"KettleChoir", "tuned", "(II)I"⟩ ∈ kt_T := List.mem_filter.mpr ⟨kc_tables_1_5 _ (List.mem_of_getElem? (i := 19) rfl), rfl⟩
set_option maxRecDepth 20000 in
theorem kw_1065 : Cond.codeWith ⟨"KettleChoirLaw", "tuned", "(LKettleChoir;II[J)I"⟩ method_19_code 5 (some .int) [(0, 10, 13, 18), (0, 10, 17, 13)] ∈ kt_T := List.mem_filter.mpr ⟨kc_tables_1_5 _ (List.mem_of_getElem? (i := 16) rfl), rfl⟩
set_option maxRecDepth 20000 in
theorem kw_1066 : Cond.methodLink "KettleChoirLaw" 67 ⟨"KettleChoir", "chord", "(I)I"⟩ ∈ kt_T := List.mem_filter.mpr ⟨kc_tables_1_5 _ (List.mem_of_getElem? (i := 32) rfl), rfl⟩
set_option maxRecDepth 20000 in
theorem kw_1067 : Cond.instanceMethod ⟨"KettleChoir", "chord", "(I)I"⟩ ∈ kt_T := List.mem_filter.mpr ⟨kc_tables_1_5 _ (List.mem_of_getElem? (i := 33) rfl), rfl⟩
set_option maxRecDepth 20000 in
theorem kw_1068 : Cond.selects "KettleChoir" ⟨"KettleChoir", "chord", "(I)I"⟩ ⟨"KettleChoir", "chord", "(I)I"⟩ ∈ kt_T := List.mem_filter.mpr ⟨kc_tables_1_5 _ (List.mem_of_getElem? (i := 34) rfl), rfl⟩
set_option maxRecDepth 20000 in
theorem kw_1069 : Cond.codeWith ⟨"KettleChoirLaw", "chord", "(LKettleChoir;I[J)I"⟩ method_20_code 4 (some .int) [(0, 9, 12, 18)] ∈ kt_T := List.mem_filter.mpr ⟨kc_tables_1_5 _ (List.mem_of_getElem? (i := 31) rfl), rfl⟩
set_option maxRecDepth 20000 in
theorem kw_1070 : Cond.methodLink "KettleChoirLaw" 70 ⟨"KettleChoir", "burner", "(II)I"⟩ ∈ kt_T := List.mem_filter.mpr ⟨kc_tables_1_5 _ (List.mem_of_getElem? (i := 58) rfl), rfl⟩
set_option maxRecDepth 20000 in
theorem kw_1071 : Cond.instanceMethod ⟨"KettleChoir", "burner", "(II)I"⟩ ∈ kt_T := List.mem_filter.mpr ⟨kc_tables_1_5 _ (List.mem_of_getElem? (i := 59) rfl), rfl⟩
set_option maxRecDepth 20000 in
theorem kw_1072 : Cond.selects "KettleChoir" ⟨"KettleChoir", "burner", "(II)I"⟩ ⟨"KettleChoir", "burner", "(II)I"⟩ ∈ kt_T := List.mem_filter.mpr ⟨kc_tables_1_5 _ (List.mem_of_getElem? (i := 60) rfl), rfl⟩
set_option maxRecDepth 20000 in
theorem kw_1073 : Cond.codeWith ⟨"KettleChoirLaw", "burner", "(LKettleChoir;II[J)I"⟩ method_21_code 5 (some .int) [(0, 10, 13, 18), (0, 10, 17, 13)] ∈ kt_T := List.mem_filter.mpr ⟨kc_tables_1_5 _ (List.mem_of_getElem? (i := 57) rfl), rfl⟩
set_option maxRecDepth 20000 in
theorem kw_1074 : Cond.methodLink "KettleChoirLaw" 73 ⟨"KettleChoir", "together", "(IIII)I"⟩ ∈ kt_T := List.mem_filter.mpr ⟨kc_tables_1_5 _ (List.mem_of_getElem? (i := 67) rfl), rfl⟩
set_option maxRecDepth 20000 in
theorem kw_1075 : Cond.instanceMethod ⟨"KettleChoir", "together", "(IIII)I"⟩ ∈ kt_T := List.mem_filter.mpr ⟨kc_tables_1_5 _ (List.mem_of_getElem? (i := 68) rfl), rfl⟩
set_option maxRecDepth 20000 in
theorem kw_1076 : Cond.selects "KettleChoir" ⟨"KettleChoir", "together", "(IIII)I"⟩ ⟨"KettleChoir", "together", "(IIII)I"⟩ ∈ kt_T := List.mem_filter.mpr ⟨kc_tables_1_5 _ (List.mem_of_getElem? (i := 69) rfl), rfl⟩
set_option maxRecDepth 20000 in
theorem kw_1077 : Cond.codeWith ⟨"KettleChoirLaw", "together", "(LKettleChoir;IIII[J)I"⟩ method_22_code 7 (some .int) [(0, 14, 17, 18), (0, 14, 21, 13)] ∈ kt_T := List.mem_filter.mpr ⟨kc_tables_1_5 _ (List.mem_of_getElem? (i := 66) rfl), rfl⟩
set_option maxRecDepth 20000 in
theorem kw_1078 : Cond.methodLink "KettleChoirLaw" 77 ⟨"KettleChoir", "chalk", "(I)I"⟩ ∈ kt_T := List.mem_filter.mpr ⟨kc_tables_1_5 _ (List.mem_of_getElem? (i := 80) rfl), rfl⟩
set_option maxRecDepth 20000 in
theorem kw_1079 : Cond.instanceMethod ⟨"KettleChoir", "chalk", "(I)I"⟩ ∈ kt_T := List.mem_filter.mpr ⟨kc_tables_1_5 _ (List.mem_of_getElem? (i := 81) rfl), rfl⟩
set_option maxRecDepth 20000 in
theorem kw_1080 : Cond.selects "KettleChoir" ⟨"KettleChoir", "chalk", "(I)I"⟩ ⟨"KettleChoir", "chalk", "(I)I"⟩ ∈ kt_T := List.mem_filter.mpr ⟨kc_tables_1_5 _ (List.mem_of_getElem? (i := 82) rfl), rfl⟩
set_option maxRecDepth 20000 in
theorem kw_1081 : Cond.codeWith ⟨"KettleChoirLaw", "chalk", "(LKettleChoir;I[J)I"⟩ method_23_code 4 (some .int) [(0, 9, 12, 18)] ∈ kt_T := List.mem_filter.mpr ⟨kc_tables_1_5 _ (List.mem_of_getElem? (i := 79) rfl), rfl⟩
set_option maxRecDepth 20000 in
theorem kw_1082 : Cond.methodLink "KettleChoirLaw" 80 ⟨"KettleChoir", "listen", "(I)I"⟩ ∈ kt_T := List.mem_filter.mpr ⟨kc_tables_1_5 _ (List.mem_of_getElem? (i := 111) rfl), rfl⟩
set_option maxRecDepth 20000 in
theorem kw_1083 : Cond.instanceMethod ⟨"KettleChoir", "listen", "(I)I"⟩ ∈ kt_T := List.mem_filter.mpr ⟨kc_tables_1_5 _ (List.mem_of_getElem? (i := 112) rfl), rfl⟩
set_option maxRecDepth 20000 in
theorem kw_1084 : Cond.selects "KettleChoir" ⟨"KettleChoir", "listen", "(I)I"⟩ ⟨"KettleChoir", "listen", "(I)I"⟩ ∈ kt_T := List.mem_filter.mpr ⟨kc_tables_1_5 _ (List.mem_of_getElem? (i := 113) rfl), rfl⟩
set_option maxRecDepth 20000 in
theorem kw_1085 : Cond.codeWith ⟨"KettleChoirLaw", "listen", "(LKettleChoir;I[J)I"⟩ method_24_code 4 (some .int) [(0, 9, 12, 18)] ∈ kt_T := List.mem_filter.mpr ⟨kc_tables_1_5 _ (List.mem_of_getElem? (i := 110) rfl), rfl⟩
set_option maxRecDepth 20000 in
theorem kw_1086 : Cond.methodLink "KettleChoirLaw" 83 ⟨"KettleChoir", "game", "(III)I"⟩ ∈ kt_T := List.mem_filter.mpr ⟨kc_tables_1_5 _ (List.mem_of_getElem? (i := 119) rfl), rfl⟩
set_option maxRecDepth 20000 in
theorem kw_1087 : Cond.instanceMethod ⟨"KettleChoir", "game", "(III)I"⟩ ∈ kt_T := List.mem_filter.mpr ⟨kc_tables_1_5 _ (List.mem_of_getElem? (i := 120) rfl), rfl⟩
set_option maxRecDepth 20000 in
theorem kw_1088 : Cond.selects "KettleChoir" ⟨"KettleChoir", "game", "(III)I"⟩ ⟨"KettleChoir", "game", "(III)I"⟩ ∈ kt_T := List.mem_filter.mpr ⟨kc_tables_1_5 _ (List.mem_of_getElem? (i := 121) rfl), rfl⟩
set_option maxRecDepth 20000 in
theorem kw_1089 : Cond.codeWith ⟨"KettleChoirLaw", "game", "(LKettleChoir;III[J)I"⟩ method_25_code 6 (some .int) [(0, 12, 15, 18), (0, 12, 19, 13)] ∈ kt_T := List.mem_filter.mpr ⟨kc_tables_1_5 _ (List.mem_of_getElem? (i := 118) rfl), rfl⟩
set_option maxRecDepth 20000 in
theorem kw_1090 : Cond.methodLink "KettleChoirLaw" 87 ⟨"KettleChoir", "evening", "(III)I"⟩ ∈ kt_T := List.mem_filter.mpr ⟨kc_tables_1_5 _ (List.mem_of_getElem? (i := 136) rfl), rfl⟩
set_option maxRecDepth 20000 in
theorem kw_1091 : Cond.instanceMethod ⟨"KettleChoir", "evening", "(III)I"⟩ ∈ kt_T := List.mem_filter.mpr ⟨kc_tables_1_5 _ (List.mem_of_getElem? (i := 137) rfl), rfl⟩
set_option maxRecDepth 20000 in
theorem kw_1092 : Cond.selects "KettleChoir" ⟨"KettleChoir", "evening", "(III)I"⟩ ⟨"KettleChoir", "evening", "(III)I"⟩ ∈ kt_T := List.mem_filter.mpr ⟨kc_tables_1_5 _ (List.mem_of_getElem? (i := 138) rfl), rfl⟩
set_option maxRecDepth 20000 in
theorem kw_1093 : Cond.codeWith ⟨"KettleChoirLaw", "evening", "(LKettleChoir;III[J)I"⟩ method_26_code 6 (some .int) [(0, 12, 15, 18), (0, 12, 19, 13)] ∈ kt_T := List.mem_filter.mpr ⟨kc_tables_1_5 _ (List.mem_of_getElem? (i := 135) rfl), rfl⟩
set_option maxRecDepth 20000 in
theorem kw_1094 : Cond.classLink "KettleChoirLaw" 8 "KettleChoir" ∈ kt_T := List.mem_filter.mpr ⟨kc_tables_1_1 _ (List.mem_of_getElem? (i := 25) rfl), rfl⟩
set_option maxRecDepth 20000 in
theorem kw_1095 : Cond.methodLink "KettleChoirLaw" 90 ⟨"KettleChoir", "<init>", "()V"⟩ ∈ kt_T := List.mem_filter.mpr ⟨kc_tables_1_1 _ (List.mem_of_getElem? (i := 27) rfl), rfl⟩
set_option maxRecDepth 20000 in
theorem kw_1096 : Cond.instanceMethod ⟨"KettleChoir", "<init>", "()V"⟩ ∈ kt_T := List.mem_filter.mpr ⟨kc_tables_1_1 _ (List.mem_of_getElem? (i := 28) rfl), rfl⟩
set_option maxRecDepth 20000 in
theorem kw_1097 : Cond.classLink "KettleChoirLaw" 91 "KettleChoirModel" ∈ kt_T := List.mem_filter.mpr ⟨kc_tables_1_5 _ (List.mem_of_getElem? (i := 170) rfl), rfl⟩
set_option maxRecDepth 20000 in
theorem kw_1098 : Cond.methodLink "KettleChoirLaw" 93 ⟨"KettleChoirModel", "<init>", "()V"⟩ ∈ kt_T := List.mem_filter.mpr ⟨kc_tables_1_5 _ (List.mem_of_getElem? (i := 172) rfl), rfl⟩
set_option maxRecDepth 20000 in
theorem kw_1099 : Cond.instanceMethod ⟨"KettleChoirModel", "<init>", "()V"⟩ ∈ kt_T := List.mem_filter.mpr ⟨kc_tables_1_5 _ (List.mem_of_getElem? (i := 173) rfl), rfl⟩
set_option maxRecDepth 20000 in
theorem kw_1100 : Cond.methodLink "KettleChoirLaw" 94 ⟨"KettleChoir", "feed", "(IIIII)I"⟩ ∈ kt_T := List.mem_filter.mpr ⟨kc_tables_1_2 _ (List.mem_of_getElem? (i := 95) rfl), rfl⟩
set_option maxRecDepth 20000 in
theorem kw_1101 : Cond.instanceMethod ⟨"KettleChoir", "feed", "(IIIII)I"⟩ ∈ kt_T := List.mem_filter.mpr ⟨kc_tables_1_2 _ (List.mem_of_getElem? (i := 96) rfl), rfl⟩
set_option maxRecDepth 20000 in
theorem kw_1102 : Cond.selects "KettleChoir" ⟨"KettleChoir", "feed", "(IIIII)I"⟩ ⟨"KettleChoir", "feed", "(IIIII)I"⟩ ∈ kt_T := List.mem_filter.mpr ⟨kc_tables_1_2 _ (List.mem_of_getElem? (i := 97) rfl), rfl⟩
set_option maxRecDepth 20000 in
theorem kw_1103 : Cond.methodLink "KettleChoirLaw" 98 ⟨"KettleChoirModel", "feed", "(IIIII)I"⟩ ∈ kt_T := List.mem_filter.mpr ⟨kc_tables_1_6 _ (List.mem_of_getElem? (i := 128) rfl), rfl⟩
set_option maxRecDepth 20000 in
theorem kw_1104 : Cond.instanceMethod ⟨"KettleChoirModel", "feed", "(IIIII)I"⟩ ∈ kt_T := List.mem_filter.mpr ⟨kc_tables_1_6 _ (List.mem_of_getElem? (i := 129) rfl), rfl⟩
set_option maxRecDepth 20000 in
theorem kw_1105 : Cond.selects "KettleChoirModel" ⟨"KettleChoirModel", "feed", "(IIIII)I"⟩ ⟨"KettleChoirModel", "feed", "(IIIII)I"⟩ ∈ kt_T := List.mem_filter.mpr ⟨kc_tables_1_6 _ (List.mem_of_getElem? (i := 130) rfl), rfl⟩
set_option maxRecDepth 20000 in
theorem kw_1106 : Cond.methodLink "KettleChoirLaw" 99 ⟨"KettleChoirLaw", "kitchen", "(LKettleChoir;I[J)I"⟩ ∈ kt_T := List.mem_filter.mpr ⟨kc_tables_1_3 _ (List.mem_of_getElem? (i := 31) rfl), rfl⟩
set_option maxRecDepth 20000 in
theorem kw_1107 : Cond.static ⟨"KettleChoirLaw", "kitchen", "(LKettleChoir;I[J)I"⟩ ∈ kt_T := List.mem_filter.mpr ⟨kc_tables_1_3 _ (List.mem_of_getElem? (i := 32) rfl), rfl⟩
set_option maxRecDepth 20000 in
theorem kw_1108 : Cond.methodLink "KettleChoirLaw" 104 ⟨"KettleChoirModel", "kitchen", "(I)I"⟩ ∈ kt_T := List.mem_filter.mpr ⟨kc_tables_1_6 _ (List.mem_of_getElem? (i := 132) rfl), rfl⟩
set_option maxRecDepth 20000 in
theorem kw_1109 : Cond.instanceMethod ⟨"KettleChoirModel", "kitchen", "(I)I"⟩ ∈ kt_T := List.mem_filter.mpr ⟨kc_tables_1_6 _ (List.mem_of_getElem? (i := 133) rfl), rfl⟩
set_option maxRecDepth 20000 in
theorem kw_1110 : Cond.selects "KettleChoirModel" ⟨"KettleChoirModel", "kitchen", "(I)I"⟩ ⟨"KettleChoirModel", "kitchen", "(I)I"⟩ ∈ kt_T := List.mem_filter.mpr ⟨kc_tables_1_6 _ (List.mem_of_getElem? (i := 134) rfl), rfl⟩
set_option maxRecDepth 20000 in
theorem kw_1111 : Cond.methodLink "KettleChoirLaw" 105 ⟨"KettleChoirModel", "thrown", "()I"⟩ ∈ kt_T := List.mem_filter.mpr ⟨kc_tables_1_6 _ (List.mem_of_getElem? (i := 124) rfl), rfl⟩
set_option maxRecDepth 20000 in
theorem kw_1112 : Cond.instanceMethod ⟨"KettleChoirModel", "thrown", "()I"⟩ ∈ kt_T := List.mem_filter.mpr ⟨kc_tables_1_6 _ (List.mem_of_getElem? (i := 125) rfl), rfl⟩
set_option maxRecDepth 20000 in
theorem kw_1113 : Cond.selects "KettleChoirModel" ⟨"KettleChoirModel", "thrown", "()I"⟩ ⟨"KettleChoirModel", "thrown", "()I"⟩ ∈ kt_T := List.mem_filter.mpr ⟨kc_tables_1_6 _ (List.mem_of_getElem? (i := 126) rfl), rfl⟩
set_option maxRecDepth 20000 in
theorem kw_1114 : Cond.methodLink "KettleChoirLaw" 109 ⟨"KettleChoir", "fault", "()I"⟩ ∈ kt_T := List.mem_filter.mpr ⟨kc_tables_1_2 _ (List.mem_of_getElem? (i := 103) rfl), rfl⟩
set_option maxRecDepth 20000 in
theorem kw_1115 : Cond.instanceMethod ⟨"KettleChoir", "fault", "()I"⟩ ∈ kt_T := List.mem_filter.mpr ⟨kc_tables_1_2 _ (List.mem_of_getElem? (i := 104) rfl), rfl⟩
set_option maxRecDepth 20000 in
theorem kw_1116 : Cond.selects "KettleChoir" ⟨"KettleChoir", "fault", "()I"⟩ ⟨"KettleChoir", "fault", "()I"⟩ ∈ kt_T := List.mem_filter.mpr ⟨kc_tables_1_2 _ (List.mem_of_getElem? (i := 105) rfl), rfl⟩
set_option maxRecDepth 20000 in
theorem kw_1117 : Cond.methodLink "KettleChoirLaw" 112 ⟨"KettleChoirModel", "fault", "()I"⟩ ∈ kt_T := List.mem_filter.mpr ⟨kc_tables_1_7 _ (List.mem_of_getElem? (i := 10) rfl), rfl⟩
set_option maxRecDepth 20000 in
theorem kw_1118 : Cond.instanceMethod ⟨"KettleChoirModel", "fault", "()I"⟩ ∈ kt_T := List.mem_filter.mpr ⟨kc_tables_1_7 _ (List.mem_of_getElem? (i := 11) rfl), rfl⟩
set_option maxRecDepth 20000 in
theorem kw_1119 : Cond.selects "KettleChoirModel" ⟨"KettleChoirModel", "fault", "()I"⟩ ⟨"KettleChoirModel", "fault", "()I"⟩ ∈ kt_T := List.mem_filter.mpr ⟨kc_tables_1_7 _ (List.mem_of_getElem? (i := 12) rfl), rfl⟩
set_option maxRecDepth 20000 in
theorem kw_1120 : Cond.methodLink "KettleChoirLaw" 113 ⟨"KettleChoirLaw", "count", "(LKettleChoir;I[J)I"⟩ ∈ kt_T := List.mem_filter.mpr ⟨kc_tables_1_4 _ (List.mem_of_getElem? (i := 56) rfl), rfl⟩
set_option maxRecDepth 20000 in
theorem kw_1121 : Cond.static ⟨"KettleChoirLaw", "count", "(LKettleChoir;I[J)I"⟩ ∈ kt_T := List.mem_filter.mpr ⟨kc_tables_1_4 _ (List.mem_of_getElem? (i := 57) rfl), rfl⟩
set_option maxRecDepth 20000 in
theorem kw_1122 : Cond.methodLink "KettleChoirLaw" 115 ⟨"KettleChoirModel", "count", "(I)I"⟩ ∈ kt_T := List.mem_filter.mpr ⟨kc_tables_1_7 _ (List.mem_of_getElem? (i := 14) rfl), rfl⟩
set_option maxRecDepth 20000 in
theorem kw_1123 : Cond.instanceMethod ⟨"KettleChoirModel", "count", "(I)I"⟩ ∈ kt_T := List.mem_filter.mpr ⟨kc_tables_1_7 _ (List.mem_of_getElem? (i := 15) rfl), rfl⟩
set_option maxRecDepth 20000 in
theorem kw_1124 : Cond.selects "KettleChoirModel" ⟨"KettleChoirModel", "count", "(I)I"⟩ ⟨"KettleChoirModel", "count", "(I)I"⟩ ∈ kt_T := List.mem_filter.mpr ⟨kc_tables_1_7 _ (List.mem_of_getElem? (i := 16) rfl), rfl⟩
set_option maxRecDepth 20000 in
theorem kw_1125 : Cond.methodLink "KettleChoirLaw" 116 ⟨"KettleChoirLaw", "kettle", "(LKettleChoir;II[J)I"⟩ ∈ kt_T := List.mem_filter.mpr ⟨kc_tables_1_4 _ (List.mem_of_getElem? (i := 99) rfl), rfl⟩
set_option maxRecDepth 20000 in
theorem kw_1126 : Cond.static ⟨"KettleChoirLaw", "kettle", "(LKettleChoir;II[J)I"⟩ ∈ kt_T := List.mem_filter.mpr ⟨kc_tables_1_4 _ (List.mem_of_getElem? (i := 100) rfl), rfl⟩
set_option maxRecDepth 20000 in
theorem kw_1127 : Cond.methodLink "KettleChoirLaw" 119 ⟨"KettleChoirModel", "kettle", "(II)I"⟩ ∈ kt_T := List.mem_filter.mpr ⟨kc_tables_1_7 _ (List.mem_of_getElem? (i := 39) rfl), rfl⟩
set_option maxRecDepth 20000 in
theorem kw_1128 : Cond.instanceMethod ⟨"KettleChoirModel", "kettle", "(II)I"⟩ ∈ kt_T := List.mem_filter.mpr ⟨kc_tables_1_7 _ (List.mem_of_getElem? (i := 40) rfl), rfl⟩
set_option maxRecDepth 20000 in
theorem kw_1129 : Cond.selects "KettleChoirModel" ⟨"KettleChoirModel", "kettle", "(II)I"⟩ ⟨"KettleChoirModel", "kettle", "(II)I"⟩ ∈ kt_T := List.mem_filter.mpr ⟨kc_tables_1_7 _ (List.mem_of_getElem? (i := 41) rfl), rfl⟩
set_option maxRecDepth 20000 in
theorem kw_1130 : Cond.methodLink "KettleChoirLaw" 120 ⟨"KettleChoirLaw", "stove", "(LKettleChoir;II[J)I"⟩ ∈ kt_T := List.mem_filter.mpr ⟨kc_tables_1_4 _ (List.mem_of_getElem? (i := 112) rfl), rfl⟩
set_option maxRecDepth 20000 in
theorem kw_1131 : Cond.static ⟨"KettleChoirLaw", "stove", "(LKettleChoir;II[J)I"⟩ ∈ kt_T := List.mem_filter.mpr ⟨kc_tables_1_4 _ (List.mem_of_getElem? (i := 113) rfl), rfl⟩
set_option maxRecDepth 20000 in
theorem kw_1132 : Cond.methodLink "KettleChoirLaw" 122 ⟨"KettleChoirModel", "stove", "(II)I"⟩ ∈ kt_T := List.mem_filter.mpr ⟨kc_tables_1_7 _ (List.mem_of_getElem? (i := 47) rfl), rfl⟩
set_option maxRecDepth 20000 in
theorem kw_1133 : Cond.instanceMethod ⟨"KettleChoirModel", "stove", "(II)I"⟩ ∈ kt_T := List.mem_filter.mpr ⟨kc_tables_1_7 _ (List.mem_of_getElem? (i := 48) rfl), rfl⟩
set_option maxRecDepth 20000 in
theorem kw_1134 : Cond.selects "KettleChoirModel" ⟨"KettleChoirModel", "stove", "(II)I"⟩ ⟨"KettleChoirModel", "stove", "(II)I"⟩ ∈ kt_T := List.mem_filter.mpr ⟨kc_tables_1_7 _ (List.mem_of_getElem? (i := 49) rfl), rfl⟩
set_option maxRecDepth 20000 in
theorem kw_1135 : Cond.methodLink "KettleChoirLaw" 123 ⟨"KettleChoirLaw", "dish", "(LKettleChoir;II[J)I"⟩ ∈ kt_T := List.mem_filter.mpr ⟨kc_tables_1_4 _ (List.mem_of_getElem? (i := 129) rfl), rfl⟩
set_option maxRecDepth 20000 in
theorem kw_1136 : Cond.static ⟨"KettleChoirLaw", "dish", "(LKettleChoir;II[J)I"⟩ ∈ kt_T := List.mem_filter.mpr ⟨kc_tables_1_4 _ (List.mem_of_getElem? (i := 130) rfl), rfl⟩
set_option maxRecDepth 20000 in
theorem kw_1137 : Cond.methodLink "KettleChoirLaw" 125 ⟨"KettleChoirModel", "dish", "(II)I"⟩ ∈ kt_T := List.mem_filter.mpr ⟨kc_tables_1_7 _ (List.mem_of_getElem? (i := 59) rfl), rfl⟩
set_option maxRecDepth 20000 in
theorem kw_1138 : Cond.instanceMethod ⟨"KettleChoirModel", "dish", "(II)I"⟩ ∈ kt_T := List.mem_filter.mpr ⟨kc_tables_1_7 _ (List.mem_of_getElem? (i := 60) rfl), rfl⟩
set_option maxRecDepth 20000 in
theorem kw_1139 : Cond.selects "KettleChoirModel" ⟨"KettleChoirModel", "dish", "(II)I"⟩ ⟨"KettleChoirModel", "dish", "(II)I"⟩ ∈ kt_T := List.mem_filter.mpr ⟨kc_tables_1_7 _ (List.mem_of_getElem? (i := 61) rfl), rfl⟩
set_option maxRecDepth 20000 in
theorem kw_1140 : Cond.methodLink "KettleChoirLaw" 126 ⟨"KettleChoir", "minutes", "(I)I"⟩ ∈ kt_T := List.mem_filter.mpr ⟨kc_tables_1_2 _ (List.mem_of_getElem? (i := 107) rfl), rfl⟩
set_option maxRecDepth 20000 in
theorem kw_1141 : Cond.instanceMethod ⟨"KettleChoir", "minutes", "(I)I"⟩ ∈ kt_T := List.mem_filter.mpr ⟨kc_tables_1_2 _ (List.mem_of_getElem? (i := 108) rfl), rfl⟩
set_option maxRecDepth 20000 in
theorem kw_1142 : Cond.selects "KettleChoir" ⟨"KettleChoir", "minutes", "(I)I"⟩ ⟨"KettleChoir", "minutes", "(I)I"⟩ ∈ kt_T := List.mem_filter.mpr ⟨kc_tables_1_2 _ (List.mem_of_getElem? (i := 109) rfl), rfl⟩
set_option maxRecDepth 20000 in
theorem kw_1143 : Cond.methodLink "KettleChoirLaw" 129 ⟨"KettleChoirModel", "minutes", "(I)I"⟩ ∈ kt_T := List.mem_filter.mpr ⟨kc_tables_1_7 _ (List.mem_of_getElem? (i := 68) rfl), rfl⟩
set_option maxRecDepth 20000 in
theorem kw_1144 : Cond.instanceMethod ⟨"KettleChoirModel", "minutes", "(I)I"⟩ ∈ kt_T := List.mem_filter.mpr ⟨kc_tables_1_7 _ (List.mem_of_getElem? (i := 69) rfl), rfl⟩
set_option maxRecDepth 20000 in
theorem kw_1145 : Cond.selects "KettleChoirModel" ⟨"KettleChoirModel", "minutes", "(I)I"⟩ ⟨"KettleChoirModel", "minutes", "(I)I"⟩ ∈ kt_T := List.mem_filter.mpr ⟨kc_tables_1_7 _ (List.mem_of_getElem? (i := 70) rfl), rfl⟩
set_option maxRecDepth 20000 in
theorem kw_1146 : Cond.methodLink "KettleChoirLaw" 130 ⟨"KettleChoirLaw", "put", "(LKettleChoir;II[J)I"⟩ ∈ kt_T := List.mem_filter.mpr ⟨kc_tables_1_4 _ (List.mem_of_getElem? (i := 142) rfl), rfl⟩
set_option maxRecDepth 20000 in
theorem kw_1147 : Cond.static ⟨"KettleChoirLaw", "put", "(LKettleChoir;II[J)I"⟩ ∈ kt_T := List.mem_filter.mpr ⟨kc_tables_1_4 _ (List.mem_of_getElem? (i := 143) rfl), rfl⟩
set_option maxRecDepth 20000 in
theorem kw_1148 : Cond.methodLink "KettleChoirLaw" 132 ⟨"KettleChoirModel", "put", "(II)Z"⟩ ∈ kt_T := List.mem_filter.mpr ⟨kc_tables_1_7 _ (List.mem_of_getElem? (i := 136) rfl), rfl⟩
set_option maxRecDepth 20000 in
theorem kw_1149 : Cond.instanceMethod ⟨"KettleChoirModel", "put", "(II)Z"⟩ ∈ kt_T := List.mem_filter.mpr ⟨kc_tables_1_7 _ (List.mem_of_getElem? (i := 137) rfl), rfl⟩
set_option maxRecDepth 20000 in
theorem kw_1150 : Cond.selects "KettleChoirModel" ⟨"KettleChoirModel", "put", "(II)Z"⟩ ⟨"KettleChoirModel", "put", "(II)Z"⟩ ∈ kt_T := List.mem_filter.mpr ⟨kc_tables_1_7 _ (List.mem_of_getElem? (i := 138) rfl), rfl⟩
set_option maxRecDepth 20000 in
theorem kw_1151 : Cond.methodLink "KettleChoirLaw" 133 ⟨"KettleChoirLaw", "lift", "(LKettleChoir;I[J)I"⟩ ∈ kt_T := List.mem_filter.mpr ⟨kc_tables_1_4 _ (List.mem_of_getElem? (i := 149) rfl), rfl⟩
set_option maxRecDepth 20000 in
theorem kw_1152 : Cond.static ⟨"KettleChoirLaw", "lift", "(LKettleChoir;I[J)I"⟩ ∈ kt_T := List.mem_filter.mpr ⟨kc_tables_1_4 _ (List.mem_of_getElem? (i := 150) rfl), rfl⟩
set_option maxRecDepth 20000 in
theorem kw_1153 : Cond.methodLink "KettleChoirLaw" 135 ⟨"KettleChoirModel", "lift", "(I)I"⟩ ∈ kt_T := List.mem_filter.mpr ⟨kc_tables_1_7 _ (List.mem_of_getElem? (i := 144) rfl), rfl⟩
set_option maxRecDepth 20000 in
theorem kw_1154 : Cond.instanceMethod ⟨"KettleChoirModel", "lift", "(I)I"⟩ ∈ kt_T := List.mem_filter.mpr ⟨kc_tables_1_7 _ (List.mem_of_getElem? (i := 145) rfl), rfl⟩
set_option maxRecDepth 20000 in
theorem kw_1155 : Cond.selects "KettleChoirModel" ⟨"KettleChoirModel", "lift", "(I)I"⟩ ⟨"KettleChoirModel", "lift", "(I)I"⟩ ∈ kt_T := List.mem_filter.mpr ⟨kc_tables_1_7 _ (List.mem_of_getElem? (i := 146) rfl), rfl⟩
set_option maxRecDepth 20000 in
theorem kw_1156 : Cond.methodLink "KettleChoirLaw" 136 ⟨"KettleChoirLaw", "pour", "(LKettleChoir;II[J)I"⟩ ∈ kt_T := List.mem_filter.mpr ⟨kc_tables_1_4 _ (List.mem_of_getElem? (i := 156) rfl), rfl⟩
set_option maxRecDepth 20000 in
theorem kw_1157 : Cond.static ⟨"KettleChoirLaw", "pour", "(LKettleChoir;II[J)I"⟩ ∈ kt_T := List.mem_filter.mpr ⟨kc_tables_1_4 _ (List.mem_of_getElem? (i := 157) rfl), rfl⟩
set_option maxRecDepth 20000 in
theorem kw_1158 : Cond.methodLink "KettleChoirLaw" 138 ⟨"KettleChoirModel", "pour", "(II)I"⟩ ∈ kt_T := List.mem_filter.mpr ⟨kc_tables_1_7 _ (List.mem_of_getElem? (i := 148) rfl), rfl⟩
set_option maxRecDepth 20000 in
theorem kw_1159 : Cond.instanceMethod ⟨"KettleChoirModel", "pour", "(II)I"⟩ ∈ kt_T := List.mem_filter.mpr ⟨kc_tables_1_7 _ (List.mem_of_getElem? (i := 149) rfl), rfl⟩
set_option maxRecDepth 20000 in
theorem kw_1160 : Cond.selects "KettleChoirModel" ⟨"KettleChoirModel", "pour", "(II)I"⟩ ⟨"KettleChoirModel", "pour", "(II)I"⟩ ∈ kt_T := List.mem_filter.mpr ⟨kc_tables_1_7 _ (List.mem_of_getElem? (i := 150) rfl), rfl⟩
set_option maxRecDepth 20000 in
theorem kw_1161 : Cond.methodLink "KettleChoirLaw" 139 ⟨"KettleChoirLaw", "scrape", "(LKettleChoir;I[J)I"⟩ ∈ kt_T := List.mem_filter.mpr ⟨kc_tables_1_4 _ (List.mem_of_getElem? (i := 163) rfl), rfl⟩
set_option maxRecDepth 20000 in
theorem kw_1162 : Cond.static ⟨"KettleChoirLaw", "scrape", "(LKettleChoir;I[J)I"⟩ ∈ kt_T := List.mem_filter.mpr ⟨kc_tables_1_4 _ (List.mem_of_getElem? (i := 164) rfl), rfl⟩
set_option maxRecDepth 20000 in
theorem kw_1163 : Cond.methodLink "KettleChoirLaw" 141 ⟨"KettleChoirModel", "scrape", "(I)I"⟩ ∈ kt_T := List.mem_filter.mpr ⟨kc_tables_1_7 _ (List.mem_of_getElem? (i := 152) rfl), rfl⟩
set_option maxRecDepth 20000 in
theorem kw_1164 : Cond.instanceMethod ⟨"KettleChoirModel", "scrape", "(I)I"⟩ ∈ kt_T := List.mem_filter.mpr ⟨kc_tables_1_7 _ (List.mem_of_getElem? (i := 153) rfl), rfl⟩
set_option maxRecDepth 20000 in
theorem kw_1165 : Cond.selects "KettleChoirModel" ⟨"KettleChoirModel", "scrape", "(I)I"⟩ ⟨"KettleChoirModel", "scrape", "(I)I"⟩ ∈ kt_T := List.mem_filter.mpr ⟨kc_tables_1_7 _ (List.mem_of_getElem? (i := 154) rfl), rfl⟩
set_option maxRecDepth 20000 in
theorem kw_1166 : Cond.methodLink "KettleChoirLaw" 142 ⟨"KettleChoir", "undo", "()I"⟩ ∈ kt_T := List.mem_filter.mpr ⟨kc_tables_1_2 _ (List.mem_of_getElem? (i := 185) rfl), rfl⟩
set_option maxRecDepth 20000 in
theorem kw_1167 : Cond.instanceMethod ⟨"KettleChoir", "undo", "()I"⟩ ∈ kt_T := List.mem_filter.mpr ⟨kc_tables_1_2 _ (List.mem_of_getElem? (i := 186) rfl), rfl⟩
set_option maxRecDepth 20000 in
theorem kw_1168 : Cond.selects "KettleChoir" ⟨"KettleChoir", "undo", "()I"⟩ ⟨"KettleChoir", "undo", "()I"⟩ ∈ kt_T := List.mem_filter.mpr ⟨kc_tables_1_2 _ (List.mem_of_getElem? (i := 187) rfl), rfl⟩
set_option maxRecDepth 20000 in
theorem kw_1169 : Cond.methodLink "KettleChoirLaw" 145 ⟨"KettleChoirModel", "undo", "()I"⟩ ∈ kt_T := List.mem_filter.mpr ⟨kc_tables_1_7 _ (List.mem_of_getElem? (i := 156) rfl), rfl⟩
set_option maxRecDepth 20000 in
theorem kw_1170 : Cond.instanceMethod ⟨"KettleChoirModel", "undo", "()I"⟩ ∈ kt_T := List.mem_filter.mpr ⟨kc_tables_1_7 _ (List.mem_of_getElem? (i := 157) rfl), rfl⟩
set_option maxRecDepth 20000 in
theorem kw_1171 : Cond.selects "KettleChoirModel" ⟨"KettleChoirModel", "undo", "()I"⟩ ⟨"KettleChoirModel", "undo", "()I"⟩ ∈ kt_T := List.mem_filter.mpr ⟨kc_tables_1_7 _ (List.mem_of_getElem? (i := 158) rfl), rfl⟩
set_option maxRecDepth 20000 in
theorem kw_1172 : Cond.methodLink "KettleChoirLaw" 146 ⟨"KettleChoirLaw", "then", "(LKettleChoir;II[J)I"⟩ ∈ kt_T := List.mem_filter.mpr ⟨kc_tables_1_4 _ (List.mem_of_getElem? (i := 170) rfl), rfl⟩
set_option maxRecDepth 20000 in
theorem kw_1173 : Cond.static ⟨"KettleChoirLaw", "then", "(LKettleChoir;II[J)I"⟩ ∈ kt_T := List.mem_filter.mpr ⟨kc_tables_1_4 _ (List.mem_of_getElem? (i := 171) rfl), rfl⟩
set_option maxRecDepth 20000 in
theorem kw_1174 : Cond.methodLink "KettleChoirLaw" 148 ⟨"KettleChoirModel", "then", "(II)I"⟩ ∈ kt_T := List.mem_filter.mpr ⟨kc_tables_1_7 _ (List.mem_of_getElem? (i := 164) rfl), rfl⟩
set_option maxRecDepth 20000 in
theorem kw_1175 : Cond.instanceMethod ⟨"KettleChoirModel", "then", "(II)I"⟩ ∈ kt_T := List.mem_filter.mpr ⟨kc_tables_1_7 _ (List.mem_of_getElem? (i := 165) rfl), rfl⟩
set_option maxRecDepth 20000 in
theorem kw_1176 : Cond.selects "KettleChoirModel" ⟨"KettleChoirModel", "then", "(II)I"⟩ ⟨"KettleChoirModel", "then", "(II)I"⟩ ∈ kt_T := List.mem_filter.mpr ⟨kc_tables_1_7 _ (List.mem_of_getElem? (i := 166) rfl), rfl⟩
set_option maxRecDepth 20000 in
theorem kw_1177 : Cond.methodLink "KettleChoirLaw" 149 ⟨"KettleChoirLaw", "sung", "(LKettleChoir;I[J)I"⟩ ∈ kt_T := List.mem_filter.mpr ⟨kc_tables_1_4 _ (List.mem_of_getElem? (i := 182) rfl), rfl⟩
set_option maxRecDepth 20000 in
theorem kw_1178 : Cond.static ⟨"KettleChoirLaw", "sung", "(LKettleChoir;I[J)I"⟩ ∈ kt_T := List.mem_filter.mpr ⟨kc_tables_1_4 _ (List.mem_of_getElem? (i := 183) rfl), rfl⟩
set_option maxRecDepth 20000 in
theorem kw_1179 : Cond.methodLink "KettleChoirLaw" 151 ⟨"KettleChoirModel", "sung", "(I)I"⟩ ∈ kt_T := List.mem_filter.mpr ⟨kc_tables_1_7 _ (List.mem_of_getElem? (i := 169) rfl), rfl⟩
set_option maxRecDepth 20000 in
theorem kw_1180 : Cond.instanceMethod ⟨"KettleChoirModel", "sung", "(I)I"⟩ ∈ kt_T := List.mem_filter.mpr ⟨kc_tables_1_7 _ (List.mem_of_getElem? (i := 170) rfl), rfl⟩
set_option maxRecDepth 20000 in
theorem kw_1181 : Cond.selects "KettleChoirModel" ⟨"KettleChoirModel", "sung", "(I)I"⟩ ⟨"KettleChoirModel", "sung", "(I)I"⟩ ∈ kt_T := List.mem_filter.mpr ⟨kc_tables_1_7 _ (List.mem_of_getElem? (i := 171) rfl), rfl⟩
set_option maxRecDepth 20000 in
theorem kw_1182 : Cond.methodLink "KettleChoirLaw" 152 ⟨"KettleChoirLaw", "done", "(LKettleChoir;I[J)I"⟩ ∈ kt_T := List.mem_filter.mpr ⟨kc_tables_1_4 _ (List.mem_of_getElem? (i := 189) rfl), rfl⟩
set_option maxRecDepth 20000 in
theorem kw_1183 : Cond.static ⟨"KettleChoirLaw", "done", "(LKettleChoir;I[J)I"⟩ ∈ kt_T := List.mem_filter.mpr ⟨kc_tables_1_4 _ (List.mem_of_getElem? (i := 190) rfl), rfl⟩
set_option maxRecDepth 20000 in
theorem kw_1184 : Cond.methodLink "KettleChoirLaw" 154 ⟨"KettleChoirModel", "done", "(I)I"⟩ ∈ kt_T := List.mem_filter.mpr ⟨kc_tables_1_7 _ (List.mem_of_getElem? (i := 173) rfl), rfl⟩
set_option maxRecDepth 20000 in
theorem kw_1185 : Cond.instanceMethod ⟨"KettleChoirModel", "done", "(I)I"⟩ ∈ kt_T := List.mem_filter.mpr ⟨kc_tables_1_7 _ (List.mem_of_getElem? (i := 174) rfl), rfl⟩
set_option maxRecDepth 20000 in
theorem kw_1186 : Cond.selects "KettleChoirModel" ⟨"KettleChoirModel", "done", "(I)I"⟩ ⟨"KettleChoirModel", "done", "(I)I"⟩ ∈ kt_T := List.mem_filter.mpr ⟨kc_tables_1_7 _ (List.mem_of_getElem? (i := 175) rfl), rfl⟩
set_option maxRecDepth 20000 in
theorem kw_1187 : Cond.methodLink "KettleChoirLaw" 155 ⟨"KettleChoirLaw", "fugue", "(LKettleChoir;I[J)I"⟩ ∈ kt_T := List.mem_filter.mpr ⟨kc_tables_1_4 _ (List.mem_of_getElem? (i := 196) rfl), rfl⟩
set_option maxRecDepth 20000 in
theorem kw_1188 : Cond.static ⟨"KettleChoirLaw", "fugue", "(LKettleChoir;I[J)I"⟩ ∈ kt_T := List.mem_filter.mpr ⟨kc_tables_1_4 _ (List.mem_of_getElem? (i := 197) rfl), rfl⟩
set_option maxRecDepth 20000 in
theorem kw_1189 : Cond.methodLink "KettleChoirLaw" 157 ⟨"KettleChoirModel", "fugue", "(I)I"⟩ ∈ kt_T := List.mem_filter.mpr ⟨kc_tables_1_7 _ (List.mem_of_getElem? (i := 181) rfl), rfl⟩
set_option maxRecDepth 20000 in
theorem kw_1190 : Cond.instanceMethod ⟨"KettleChoirModel", "fugue", "(I)I"⟩ ∈ kt_T := List.mem_filter.mpr ⟨kc_tables_1_7 _ (List.mem_of_getElem? (i := 182) rfl), rfl⟩
set_option maxRecDepth 20000 in
theorem kw_1191 : Cond.selects "KettleChoirModel" ⟨"KettleChoirModel", "fugue", "(I)I"⟩ ⟨"KettleChoirModel", "fugue", "(I)I"⟩ ∈ kt_T := List.mem_filter.mpr ⟨kc_tables_1_7 _ (List.mem_of_getElem? (i := 183) rfl), rfl⟩
set_option maxRecDepth 20000 in
theorem kw_1192 : Cond.methodLink "KettleChoirLaw" 158 ⟨"KettleChoir", "quiet", "()I"⟩ ∈ kt_T := List.mem_filter.mpr ⟨kc_tables_1_2 _ (List.mem_of_getElem? (i := 193) rfl), rfl⟩
set_option maxRecDepth 20000 in
theorem kw_1193 : Cond.instanceMethod ⟨"KettleChoir", "quiet", "()I"⟩ ∈ kt_T := List.mem_filter.mpr ⟨kc_tables_1_2 _ (List.mem_of_getElem? (i := 194) rfl), rfl⟩
set_option maxRecDepth 20000 in
theorem kw_1194 : Cond.selects "KettleChoir" ⟨"KettleChoir", "quiet", "()I"⟩ ⟨"KettleChoir", "quiet", "()I"⟩ ∈ kt_T := List.mem_filter.mpr ⟨kc_tables_1_2 _ (List.mem_of_getElem? (i := 195) rfl), rfl⟩
set_option maxRecDepth 20000 in
theorem kw_1195 : Cond.methodLink "KettleChoirLaw" 161 ⟨"KettleChoirModel", "quiet", "()I"⟩ ∈ kt_T := List.mem_filter.mpr ⟨kc_tables_1_7 _ (List.mem_of_getElem? (i := 186) rfl), rfl⟩
set_option maxRecDepth 20000 in
theorem kw_1196 : Cond.instanceMethod ⟨"KettleChoirModel", "quiet", "()I"⟩ ∈ kt_T := List.mem_filter.mpr ⟨kc_tables_1_7 _ (List.mem_of_getElem? (i := 187) rfl), rfl⟩
set_option maxRecDepth 20000 in
theorem kw_1197 : Cond.selects "KettleChoirModel" ⟨"KettleChoirModel", "quiet", "()I"⟩ ⟨"KettleChoirModel", "quiet", "()I"⟩ ∈ kt_T := List.mem_filter.mpr ⟨kc_tables_1_7 _ (List.mem_of_getElem? (i := 188) rfl), rfl⟩
set_option maxRecDepth 20000 in
theorem kw_1198 : Cond.methodLink "KettleChoirLaw" 162 ⟨"KettleChoirLaw", "loudest", "(LKettleChoir;I[J)I"⟩ ∈ kt_T := List.mem_filter.mpr ⟨kc_tables_1_4 _ (List.mem_of_getElem? (i := 204) rfl), rfl⟩
set_option maxRecDepth 20000 in
theorem kw_1199 : Cond.static ⟨"KettleChoirLaw", "loudest", "(LKettleChoir;I[J)I"⟩ ∈ kt_T := List.mem_filter.mpr ⟨kc_tables_1_4 _ (List.mem_of_getElem? (i := 205) rfl), rfl⟩
set_option maxRecDepth 20000 in
theorem kw_1200 : Cond.methodLink "KettleChoirLaw" 164 ⟨"KettleChoirModel", "loudest", "(I)I"⟩ ∈ kt_T := List.mem_filter.mpr ⟨kc_tables_1_7 _ (List.mem_of_getElem? (i := 190) rfl), rfl⟩
set_option maxRecDepth 20000 in
theorem kw_1201 : Cond.instanceMethod ⟨"KettleChoirModel", "loudest", "(I)I"⟩ ∈ kt_T := List.mem_filter.mpr ⟨kc_tables_1_7 _ (List.mem_of_getElem? (i := 191) rfl), rfl⟩
set_option maxRecDepth 20000 in
theorem kw_1202 : Cond.selects "KettleChoirModel" ⟨"KettleChoirModel", "loudest", "(I)I"⟩ ⟨"KettleChoirModel", "loudest", "(I)I"⟩ ∈ kt_T := List.mem_filter.mpr ⟨kc_tables_1_7 _ (List.mem_of_getElem? (i := 192) rfl), rfl⟩
set_option maxRecDepth 20000 in
theorem kw_1203 : Cond.methodLink "KettleChoirLaw" 165 ⟨"KettleChoirLaw", "dry", "(LKettleChoir;I[J)I"⟩ ∈ kt_T := List.mem_filter.mpr ⟨kc_tables_1_4 _ (List.mem_of_getElem? (i := 212) rfl), rfl⟩
set_option maxRecDepth 20000 in
theorem kw_1204 : Cond.static ⟨"KettleChoirLaw", "dry", "(LKettleChoir;I[J)I"⟩ ∈ kt_T := List.mem_filter.mpr ⟨kc_tables_1_4 _ (List.mem_of_getElem? (i := 213) rfl), rfl⟩
set_option maxRecDepth 20000 in
theorem kw_1205 : Cond.methodLink "KettleChoirLaw" 167 ⟨"KettleChoirModel", "dry", "(I)I"⟩ ∈ kt_T := List.mem_filter.mpr ⟨kc_tables_1_7 _ (List.mem_of_getElem? (i := 194) rfl), rfl⟩
set_option maxRecDepth 20000 in
theorem kw_1206 : Cond.instanceMethod ⟨"KettleChoirModel", "dry", "(I)I"⟩ ∈ kt_T := List.mem_filter.mpr ⟨kc_tables_1_7 _ (List.mem_of_getElem? (i := 195) rfl), rfl⟩
set_option maxRecDepth 20000 in
theorem kw_1207 : Cond.selects "KettleChoirModel" ⟨"KettleChoirModel", "dry", "(I)I"⟩ ⟨"KettleChoirModel", "dry", "(I)I"⟩ ∈ kt_T := List.mem_filter.mpr ⟨kc_tables_1_7 _ (List.mem_of_getElem? (i := 196) rfl), rfl⟩
set_option maxRecDepth 20000 in
theorem kw_1208 : Cond.methodLink "KettleChoirLaw" 168 ⟨"KettleChoirLaw", "soonest", "(LKettleChoir;II[J)I"⟩ ∈ kt_T := List.mem_filter.mpr ⟨kc_tables_1_4 _ (List.mem_of_getElem? (i := 219) rfl), rfl⟩
set_option maxRecDepth 20000 in
theorem kw_1209 : Cond.static ⟨"KettleChoirLaw", "soonest", "(LKettleChoir;II[J)I"⟩ ∈ kt_T := List.mem_filter.mpr ⟨kc_tables_1_4 _ (List.mem_of_getElem? (i := 220) rfl), rfl⟩
set_option maxRecDepth 20000 in
theorem kw_1210 : Cond.methodLink "KettleChoirLaw" 170 ⟨"KettleChoirModel", "soonest", "(II)I"⟩ ∈ kt_T := List.mem_filter.mpr ⟨kc_tables_1_7 _ (List.mem_of_getElem? (i := 198) rfl), rfl⟩
set_option maxRecDepth 20000 in
theorem kw_1211 : Cond.instanceMethod ⟨"KettleChoirModel", "soonest", "(II)I"⟩ ∈ kt_T := List.mem_filter.mpr ⟨kc_tables_1_7 _ (List.mem_of_getElem? (i := 199) rfl), rfl⟩
set_option maxRecDepth 20000 in
theorem kw_1212 : Cond.selects "KettleChoirModel" ⟨"KettleChoirModel", "soonest", "(II)I"⟩ ⟨"KettleChoirModel", "soonest", "(II)I"⟩ ∈ kt_T := List.mem_filter.mpr ⟨kc_tables_1_7 _ (List.mem_of_getElem? (i := 200) rfl), rfl⟩
set_option maxRecDepth 20000 in
theorem kw_1213 : Cond.methodLink "KettleChoirLaw" 171 ⟨"KettleChoirLaw", "tuned", "(LKettleChoir;II[J)I"⟩ ∈ kt_T := List.mem_filter.mpr ⟨kc_tables_1_5 _ (List.mem_of_getElem? (i := 14) rfl), rfl⟩
set_option maxRecDepth 20000 in
theorem kw_1214 : Cond.static ⟨"KettleChoirLaw", "tuned", "(LKettleChoir;II[J)I"⟩ ∈ kt_T := List.mem_filter.mpr ⟨kc_tables_1_5 _ (List.mem_of_getElem? (i := 15) rfl), rfl⟩
set_option maxRecDepth 20000 in
theorem kw_1215 : Cond.methodLink "KettleChoirLaw" 173 ⟨"KettleChoirModel", "tuned", "(II)I"⟩ ∈ kt_T := List.mem_filter.mpr ⟨kc_tables_1_7 _ (List.mem_of_getElem? (i := 207) rfl), rfl⟩
set_option maxRecDepth 20000 in
theorem kw_1216 : Cond.instanceMethod ⟨"KettleChoirModel", "tuned", "(II)I"⟩ ∈ kt_T := List.mem_filter.mpr ⟨kc_tables_1_7 _ (List.mem_of_getElem? (i := 208) rfl), rfl⟩
set_option maxRecDepth 20000 in
theorem kw_1217 : Cond.selects "KettleChoirModel" ⟨"KettleChoirModel", "tuned", "(II)I"⟩ ⟨"KettleChoirModel", "tuned", "(II)I"⟩ ∈ kt_T := List.mem_filter.mpr ⟨kc_tables_1_7 _ (List.mem_of_getElem? (i := 209) rfl), rfl⟩
set_option maxRecDepth 20000 in
theorem kw_1218 : Cond.methodLink "KettleChoirLaw" 174 ⟨"KettleChoirLaw", "chord", "(LKettleChoir;I[J)I"⟩ ∈ kt_T := List.mem_filter.mpr ⟨kc_tables_1_5 _ (List.mem_of_getElem? (i := 29) rfl), rfl⟩
set_option maxRecDepth 20000 in
theorem kw_1219 : Cond.static ⟨"KettleChoirLaw", "chord", "(LKettleChoir;I[J)I"⟩ ∈ kt_T := List.mem_filter.mpr ⟨kc_tables_1_5 _ (List.mem_of_getElem? (i := 30) rfl), rfl⟩
set_option maxRecDepth 20000 in
theorem kw_1220 : Cond.methodLink "KettleChoirLaw" 176 ⟨"KettleChoirModel", "chord", "(I)I"⟩ ∈ kt_T := List.mem_filter.mpr ⟨kc_tables_1_7 _ (List.mem_of_getElem? (i := 217) rfl), rfl⟩
set_option maxRecDepth 20000 in
theorem kw_1221 : Cond.instanceMethod ⟨"KettleChoirModel", "chord", "(I)I"⟩ ∈ kt_T := List.mem_filter.mpr ⟨kc_tables_1_7 _ (List.mem_of_getElem? (i := 218) rfl), rfl⟩
set_option maxRecDepth 20000 in
theorem kw_1222 : Cond.selects "KettleChoirModel" ⟨"KettleChoirModel", "chord", "(I)I"⟩ ⟨"KettleChoirModel", "chord", "(I)I"⟩ ∈ kt_T := List.mem_filter.mpr ⟨kc_tables_1_7 _ (List.mem_of_getElem? (i := 219) rfl), rfl⟩
set_option maxRecDepth 20000 in
theorem kw_1223 : Cond.methodLink "KettleChoirLaw" 177 ⟨"KettleChoirLaw", "burner", "(LKettleChoir;II[J)I"⟩ ∈ kt_T := List.mem_filter.mpr ⟨kc_tables_1_5 _ (List.mem_of_getElem? (i := 55) rfl), rfl⟩
set_option maxRecDepth 20000 in
theorem kw_1224 : Cond.static ⟨"KettleChoirLaw", "burner", "(LKettleChoir;II[J)I"⟩ ∈ kt_T := List.mem_filter.mpr ⟨kc_tables_1_5 _ (List.mem_of_getElem? (i := 56) rfl), rfl⟩
set_option maxRecDepth 20000 in
theorem kw_1225 : Cond.methodLink "KettleChoirLaw" 179 ⟨"KettleChoirModel", "burner", "(II)I"⟩ ∈ kt_T := List.mem_filter.mpr ⟨kc_tables_1_7 _ (List.mem_of_getElem? (i := 228) rfl), rfl⟩
set_option maxRecDepth 20000 in
theorem kw_1226 : Cond.instanceMethod ⟨"KettleChoirModel", "burner", "(II)I"⟩ ∈ kt_T := List.mem_filter.mpr ⟨kc_tables_1_7 _ (List.mem_of_getElem? (i := 229) rfl), rfl⟩
set_option maxRecDepth 20000 in
theorem kw_1227 : Cond.selects "KettleChoirModel" ⟨"KettleChoirModel", "burner", "(II)I"⟩ ⟨"KettleChoirModel", "burner", "(II)I"⟩ ∈ kt_T := List.mem_filter.mpr ⟨kc_tables_1_7 _ (List.mem_of_getElem? (i := 230) rfl), rfl⟩
set_option maxRecDepth 20000 in
theorem kw_1228 : Cond.methodLink "KettleChoirLaw" 180 ⟨"KettleChoirLaw", "together", "(LKettleChoir;IIII[J)I"⟩ ∈ kt_T := List.mem_filter.mpr ⟨kc_tables_1_5 _ (List.mem_of_getElem? (i := 64) rfl), rfl⟩
set_option maxRecDepth 20000 in
theorem kw_1229 : Cond.static ⟨"KettleChoirLaw", "together", "(LKettleChoir;IIII[J)I"⟩ ∈ kt_T := List.mem_filter.mpr ⟨kc_tables_1_5 _ (List.mem_of_getElem? (i := 65) rfl), rfl⟩
set_option maxRecDepth 20000 in
theorem kw_1230 : Cond.methodLink "KettleChoirLaw" 183 ⟨"KettleChoirModel", "together", "(IIII)I"⟩ ∈ kt_T := List.mem_filter.mpr ⟨kc_tables_1_7 _ (List.mem_of_getElem? (i := 232) rfl), rfl⟩
set_option maxRecDepth 20000 in
theorem kw_1231 : Cond.instanceMethod ⟨"KettleChoirModel", "together", "(IIII)I"⟩ ∈ kt_T := List.mem_filter.mpr ⟨kc_tables_1_7 _ (List.mem_of_getElem? (i := 233) rfl), rfl⟩
set_option maxRecDepth 20000 in
theorem kw_1232 : Cond.selects "KettleChoirModel" ⟨"KettleChoirModel", "together", "(IIII)I"⟩ ⟨"KettleChoirModel", "together", "(IIII)I"⟩ ∈ kt_T := List.mem_filter.mpr ⟨kc_tables_1_7 _ (List.mem_of_getElem? (i := 234) rfl), rfl⟩
set_option maxRecDepth 20000 in
theorem kw_1233 : Cond.methodLink "KettleChoirLaw" 184 ⟨"KettleChoir", "hear", "(II)I"⟩ ∈ kt_T := List.mem_filter.mpr ⟨kc_tables_1_2 _ (List.mem_of_getElem? (i := 206) rfl), rfl⟩
set_option maxRecDepth 20000 in
theorem kw_1234 : Cond.instanceMethod ⟨"KettleChoir", "hear", "(II)I"⟩ ∈ kt_T := List.mem_filter.mpr ⟨kc_tables_1_2 _ (List.mem_of_getElem? (i := 207) rfl), rfl⟩
set_option maxRecDepth 20000 in
theorem kw_1235 : Cond.selects "KettleChoir" ⟨"KettleChoir", "hear", "(II)I"⟩ ⟨"KettleChoir", "hear", "(II)I"⟩ ∈ kt_T := List.mem_filter.mpr ⟨kc_tables_1_2 _ (List.mem_of_getElem? (i := 208) rfl), rfl⟩
set_option maxRecDepth 20000 in
theorem kw_1236 : Cond.methodLink "KettleChoirLaw" 187 ⟨"KettleChoirModel", "hear", "(II)I"⟩ ∈ kt_T := List.mem_filter.mpr ⟨kc_tables_1_7 _ (List.mem_of_getElem? (i := 238) rfl), rfl⟩
set_option maxRecDepth 20000 in
theorem kw_1237 : Cond.instanceMethod ⟨"KettleChoirModel", "hear", "(II)I"⟩ ∈ kt_T := List.mem_filter.mpr ⟨kc_tables_1_7 _ (List.mem_of_getElem? (i := 239) rfl), rfl⟩
set_option maxRecDepth 20000 in
theorem kw_1238 : Cond.selects "KettleChoirModel" ⟨"KettleChoirModel", "hear", "(II)I"⟩ ⟨"KettleChoirModel", "hear", "(II)I"⟩ ∈ kt_T := List.mem_filter.mpr ⟨kc_tables_1_8 _ (List.mem_of_getElem? (i := 0) rfl), rfl⟩
set_option maxRecDepth 20000 in
theorem kw_1239 : Cond.methodLink "KettleChoirLaw" 188 ⟨"KettleChoirLaw", "chalk", "(LKettleChoir;I[J)I"⟩ ∈ kt_T := List.mem_filter.mpr ⟨kc_tables_1_5 _ (List.mem_of_getElem? (i := 77) rfl), rfl⟩
set_option maxRecDepth 20000 in
theorem kw_1240 : Cond.static ⟨"KettleChoirLaw", "chalk", "(LKettleChoir;I[J)I"⟩ ∈ kt_T := List.mem_filter.mpr ⟨kc_tables_1_5 _ (List.mem_of_getElem? (i := 78) rfl), rfl⟩
set_option maxRecDepth 20000 in
theorem kw_1241 : Cond.methodLink "KettleChoirLaw" 190 ⟨"KettleChoirModel", "chalk", "(I)I"⟩ ∈ kt_T := List.mem_filter.mpr ⟨kc_tables_1_8 _ (List.mem_of_getElem? (i := 2) rfl), rfl⟩
set_option maxRecDepth 20000 in
theorem kw_1242 : Cond.instanceMethod ⟨"KettleChoirModel", "chalk", "(I)I"⟩ ∈ kt_T := List.mem_filter.mpr ⟨kc_tables_1_8 _ (List.mem_of_getElem? (i := 3) rfl), rfl⟩
set_option maxRecDepth 20000 in
theorem kw_1243 : Cond.selects "KettleChoirModel" ⟨"KettleChoirModel", "chalk", "(I)I"⟩ ⟨"KettleChoirModel", "chalk", "(I)I"⟩ ∈ kt_T := List.mem_filter.mpr ⟨kc_tables_1_8 _ (List.mem_of_getElem? (i := 4) rfl), rfl⟩
set_option maxRecDepth 20000 in
theorem kw_1244 : Cond.methodLink "KettleChoirLaw" 191 ⟨"KettleChoirLaw", "listen", "(LKettleChoir;I[J)I"⟩ ∈ kt_T := List.mem_filter.mpr ⟨kc_tables_1_5 _ (List.mem_of_getElem? (i := 108) rfl), rfl⟩
set_option maxRecDepth 20000 in
theorem kw_1245 : Cond.static ⟨"KettleChoirLaw", "listen", "(LKettleChoir;I[J)I"⟩ ∈ kt_T := List.mem_filter.mpr ⟨kc_tables_1_5 _ (List.mem_of_getElem? (i := 109) rfl), rfl⟩
set_option maxRecDepth 20000 in
theorem kw_1246 : Cond.methodLink "KettleChoirLaw" 193 ⟨"KettleChoirModel", "listen", "(I)I"⟩ ∈ kt_T := List.mem_filter.mpr ⟨kc_tables_1_8 _ (List.mem_of_getElem? (i := 15) rfl), rfl⟩
set_option maxRecDepth 20000 in
theorem kw_1247 : Cond.instanceMethod ⟨"KettleChoirModel", "listen", "(I)I"⟩ ∈ kt_T := List.mem_filter.mpr ⟨kc_tables_1_8 _ (List.mem_of_getElem? (i := 16) rfl), rfl⟩
set_option maxRecDepth 20000 in
theorem kw_1248 : Cond.selects "KettleChoirModel" ⟨"KettleChoirModel", "listen", "(I)I"⟩ ⟨"KettleChoirModel", "listen", "(I)I"⟩ ∈ kt_T := List.mem_filter.mpr ⟨kc_tables_1_8 _ (List.mem_of_getElem? (i := 17) rfl), rfl⟩
set_option maxRecDepth 20000 in
theorem kw_1249 : Cond.methodLink "KettleChoirLaw" 194 ⟨"KettleChoir", "forget", "()V"⟩ ∈ kt_T := List.mem_filter.mpr ⟨kc_tables_1_2 _ (List.mem_of_getElem? (i := 214) rfl), rfl⟩
set_option maxRecDepth 20000 in
theorem kw_1250 : Cond.instanceMethod ⟨"KettleChoir", "forget", "()V"⟩ ∈ kt_T := List.mem_filter.mpr ⟨kc_tables_1_2 _ (List.mem_of_getElem? (i := 215) rfl), rfl⟩
set_option maxRecDepth 20000 in
theorem kw_1251 : Cond.selects "KettleChoir" ⟨"KettleChoir", "forget", "()V"⟩ ⟨"KettleChoir", "forget", "()V"⟩ ∈ kt_T := List.mem_filter.mpr ⟨kc_tables_1_2 _ (List.mem_of_getElem? (i := 216) rfl), rfl⟩
set_option maxRecDepth 20000 in
theorem kw_1252 : Cond.methodLink "KettleChoirLaw" 197 ⟨"KettleChoirModel", "forget", "()V"⟩ ∈ kt_T := List.mem_filter.mpr ⟨kc_tables_1_8 _ (List.mem_of_getElem? (i := 31) rfl), rfl⟩
set_option maxRecDepth 20000 in
theorem kw_1253 : Cond.instanceMethod ⟨"KettleChoirModel", "forget", "()V"⟩ ∈ kt_T := List.mem_filter.mpr ⟨kc_tables_1_8 _ (List.mem_of_getElem? (i := 32) rfl), rfl⟩
set_option maxRecDepth 20000 in
theorem kw_1254 : Cond.selects "KettleChoirModel" ⟨"KettleChoirModel", "forget", "()V"⟩ ⟨"KettleChoirModel", "forget", "()V"⟩ ∈ kt_T := List.mem_filter.mpr ⟨kc_tables_1_8 _ (List.mem_of_getElem? (i := 33) rfl), rfl⟩
set_option maxRecDepth 20000 in
theorem kw_1255 : Cond.methodLink "KettleChoirLaw" 198 ⟨"KettleChoirLaw", "game", "(LKettleChoir;III[J)I"⟩ ∈ kt_T := List.mem_filter.mpr ⟨kc_tables_1_5 _ (List.mem_of_getElem? (i := 116) rfl), rfl⟩
set_option maxRecDepth 20000 in
theorem kw_1256 : Cond.static ⟨"KettleChoirLaw", "game", "(LKettleChoir;III[J)I"⟩ ∈ kt_T := List.mem_filter.mpr ⟨kc_tables_1_5 _ (List.mem_of_getElem? (i := 117) rfl), rfl⟩
set_option maxRecDepth 20000 in
theorem kw_1257 : Cond.methodLink "KettleChoirLaw" 201 ⟨"KettleChoirModel", "game", "(III)I"⟩ ∈ kt_T := List.mem_filter.mpr ⟨kc_tables_1_8 _ (List.mem_of_getElem? (i := 35) rfl), rfl⟩
set_option maxRecDepth 20000 in
theorem kw_1258 : Cond.instanceMethod ⟨"KettleChoirModel", "game", "(III)I"⟩ ∈ kt_T := List.mem_filter.mpr ⟨kc_tables_1_8 _ (List.mem_of_getElem? (i := 36) rfl), rfl⟩
set_option maxRecDepth 20000 in
theorem kw_1259 : Cond.selects "KettleChoirModel" ⟨"KettleChoirModel", "game", "(III)I"⟩ ⟨"KettleChoirModel", "game", "(III)I"⟩ ∈ kt_T := List.mem_filter.mpr ⟨kc_tables_1_8 _ (List.mem_of_getElem? (i := 37) rfl), rfl⟩
set_option maxRecDepth 20000 in
theorem kw_1260 : Cond.methodLink "KettleChoirLaw" 202 ⟨"KettleChoirLaw", "evening", "(LKettleChoir;III[J)I"⟩ ∈ kt_T := List.mem_filter.mpr ⟨kc_tables_1_5 _ (List.mem_of_getElem? (i := 133) rfl), rfl⟩
set_option maxRecDepth 20000 in
theorem kw_1261 : Cond.static ⟨"KettleChoirLaw", "evening", "(LKettleChoir;III[J)I"⟩ ∈ kt_T := List.mem_filter.mpr ⟨kc_tables_1_5 _ (List.mem_of_getElem? (i := 134) rfl), rfl⟩
set_option maxRecDepth 20000 in
theorem kw_1262 : Cond.methodLink "KettleChoirLaw" 204 ⟨"KettleChoirModel", "evening", "(III)I"⟩ ∈ kt_T := List.mem_filter.mpr ⟨kc_tables_1_8 _ (List.mem_of_getElem? (i := 43) rfl), rfl⟩
set_option maxRecDepth 20000 in
theorem kw_1263 : Cond.instanceMethod ⟨"KettleChoirModel", "evening", "(III)I"⟩ ∈ kt_T := List.mem_filter.mpr ⟨kc_tables_1_8 _ (List.mem_of_getElem? (i := 44) rfl), rfl⟩
set_option maxRecDepth 20000 in
theorem kw_1264 : Cond.selects "KettleChoirModel" ⟨"KettleChoirModel", "evening", "(III)I"⟩ ⟨"KettleChoirModel", "evening", "(III)I"⟩ ∈ kt_T := List.mem_filter.mpr ⟨kc_tables_1_8 _ (List.mem_of_getElem? (i := 45) rfl), rfl⟩
set_option maxRecDepth 20000 in
theorem kw_1265 : Cond.methodLink "KettleChoirLaw" 205 ⟨"KettleChoir", "image", "()V"⟩ ∈ kt_T := List.mem_filter.mpr ⟨kc_tables_1_2 _ (List.mem_of_getElem? (i := 222) rfl), rfl⟩
set_option maxRecDepth 20000 in
theorem kw_1266 : Cond.instanceMethod ⟨"KettleChoir", "image", "()V"⟩ ∈ kt_T := List.mem_filter.mpr ⟨kc_tables_1_2 _ (List.mem_of_getElem? (i := 223) rfl), rfl⟩
set_option maxRecDepth 20000 in
theorem kw_1267 : Cond.selects "KettleChoir" ⟨"KettleChoir", "image", "()V"⟩ ⟨"KettleChoir", "image", "()V"⟩ ∈ kt_T := List.mem_filter.mpr ⟨kc_tables_1_2 _ (List.mem_of_getElem? (i := 224) rfl), rfl⟩
set_option maxRecDepth 20000 in
theorem kw_1268 : Cond.methodLink "KettleChoirLaw" 208 ⟨"KettleChoirModel", "image", "()V"⟩ ∈ kt_T := List.mem_filter.mpr ⟨kc_tables_1_8 _ (List.mem_of_getElem? (i := 57) rfl), rfl⟩
set_option maxRecDepth 20000 in
theorem kw_1269 : Cond.instanceMethod ⟨"KettleChoirModel", "image", "()V"⟩ ∈ kt_T := List.mem_filter.mpr ⟨kc_tables_1_8 _ (List.mem_of_getElem? (i := 58) rfl), rfl⟩
set_option maxRecDepth 20000 in
theorem kw_1270 : Cond.selects "KettleChoirModel" ⟨"KettleChoirModel", "image", "()V"⟩ ⟨"KettleChoirModel", "image", "()V"⟩ ∈ kt_T := List.mem_filter.mpr ⟨kc_tables_1_8 _ (List.mem_of_getElem? (i := 59) rfl), rfl⟩
set_option maxRecDepth 20000 in
theorem kw_1271 : Cond.methodLink "KettleChoirLaw" 209 ⟨"KettleChoir", "restore", "()Z"⟩ ∈ kt_T := List.mem_filter.mpr ⟨kc_tables_1_3 _ (List.mem_of_getElem? (i := 23) rfl), rfl⟩
set_option maxRecDepth 20000 in
theorem kw_1272 : Cond.instanceMethod ⟨"KettleChoir", "restore", "()Z"⟩ ∈ kt_T := List.mem_filter.mpr ⟨kc_tables_1_3 _ (List.mem_of_getElem? (i := 24) rfl), rfl⟩
set_option maxRecDepth 20000 in
theorem kw_1273 : Cond.selects "KettleChoir" ⟨"KettleChoir", "restore", "()Z"⟩ ⟨"KettleChoir", "restore", "()Z"⟩ ∈ kt_T := List.mem_filter.mpr ⟨kc_tables_1_3 _ (List.mem_of_getElem? (i := 25) rfl), rfl⟩
set_option maxRecDepth 20000 in
theorem kw_1274 : Cond.methodLink "KettleChoirLaw" 213 ⟨"KettleChoirModel", "restore", "()Z"⟩ ∈ kt_T := List.mem_filter.mpr ⟨kc_tables_1_8 _ (List.mem_of_getElem? (i := 64) rfl), rfl⟩
set_option maxRecDepth 20000 in
theorem kw_1275 : Cond.instanceMethod ⟨"KettleChoirModel", "restore", "()Z"⟩ ∈ kt_T := List.mem_filter.mpr ⟨kc_tables_1_8 _ (List.mem_of_getElem? (i := 65) rfl), rfl⟩
set_option maxRecDepth 20000 in
theorem kw_1276 : Cond.selects "KettleChoirModel" ⟨"KettleChoirModel", "restore", "()Z"⟩ ⟨"KettleChoirModel", "restore", "()Z"⟩ ∈ kt_T := List.mem_filter.mpr ⟨kc_tables_1_8 _ (List.mem_of_getElem? (i := 66) rfl), rfl⟩
set_option maxRecDepth 20000 in
theorem kw_1277 : Cond.initialized "java/lang/Throwable" ∈ kt_T := List.mem_filter.mpr ⟨kc_tables_1_1 _ (List.mem_of_getElem? (i := 11) rfl), rfl⟩
set_option maxRecDepth 20000 in
theorem kw_1278 : Cond.superclass "java/lang/Throwable" "java/lang/Object" ∈ kt_T := List.mem_filter.mpr ⟨kc_tables_1_3 _ (List.mem_of_getElem? (i := 61) rfl), rfl⟩
set_option maxRecDepth 20000 in
theorem kw_1279 : Cond.instanceMethod ⟨"java/lang/Throwable", "fillInStackTrace", "()Ljava/lang/Throwable;"⟩ ∈ kt_T := List.mem_filter.mpr ⟨kc_tables_1_3 _ (List.mem_of_getElem? (i := 70) rfl), rfl⟩
set_option maxRecDepth 20000 in
theorem kw_1280 : Cond.codeSync ⟨"java/lang/Throwable", "fillInStackTrace", "()Ljava/lang/Throwable;"⟩ prog_25_method_18_code 1 (Option.some (Jvm.ClassFile.FieldType.object "java/lang/Throwable")) ∈ kt_T := List.mem_filter.mpr ⟨kc_tables_1_3 _ (List.mem_of_getElem? (i := 73) rfl), rfl⟩
set_option maxRecDepth 20000 in
theorem kw_1281 : Cond.instanceMethod ⟨"java/lang/Throwable", "fillInStackTrace", "(I)Ljava/lang/Throwable;"⟩ ∈ kt_T := List.mem_filter.mpr ⟨kc_tables_1_3 _ (List.mem_of_getElem? (i := 76) rfl), rfl⟩
set_option maxRecDepth 20000 in
theorem kw_1282 : Cond.native ⟨"java/lang/Throwable", "fillInStackTrace", "(I)Ljava/lang/Throwable;"⟩ ∈ kt_T := List.mem_filter.mpr ⟨kc_tables_1_3 _ (List.mem_of_getElem? (i := 78) rfl), rfl⟩
set_option maxRecDepth 20000 in
theorem kw_1283 : Cond.instanceMethod ⟨"java/lang/Throwable", "<init>", "()V"⟩ ∈ kt_T := List.mem_filter.mpr ⟨kc_tables_1_3 _ (List.mem_of_getElem? (i := 62) rfl), rfl⟩
set_option maxRecDepth 20000 in
theorem kw_1284 : Cond.code ⟨"java/lang/Throwable", "<init>", "()V"⟩ prog_25_method_1_code 1 none ∈ kt_T := List.mem_filter.mpr ⟨kc_tables_1_3 _ (List.mem_of_getElem? (i := 63) rfl), rfl⟩
set_option maxRecDepth 20000 in
theorem kw_1285 : Cond.methodLink "java/lang/Throwable" 1 ⟨"java/lang/Object", "<init>", "()V"⟩ ∈ kt_T := List.mem_filter.mpr ⟨kc_tables_1_3 _ (List.mem_of_getElem? (i := 64) rfl), rfl⟩
set_option maxRecDepth 20000 in
theorem kw_1286 : Cond.methodLink "java/lang/Throwable" 27 ⟨"java/lang/Throwable", "fillInStackTrace", "()Ljava/lang/Throwable;"⟩ ∈ kt_T := List.mem_filter.mpr ⟨kc_tables_1_3 _ (List.mem_of_getElem? (i := 69) rfl), rfl⟩
set_option maxRecDepth 20000 in
theorem kw_1287 : Cond.methodLink "java/lang/Throwable" 202 ⟨"java/lang/Throwable", "fillInStackTrace", "(I)Ljava/lang/Throwable;"⟩ ∈ kt_T := List.mem_filter.mpr ⟨kc_tables_1_3 _ (List.mem_of_getElem? (i := 74) rfl), rfl⟩
set_option maxRecDepth 20000 in
theorem kw_1288 : Cond.fieldLink "java/lang/Throwable" 7 "java/lang/Throwable" "cause" "Ljava/lang/Throwable;" ∈ kt_T := List.mem_filter.mpr ⟨kc_tables_1_3 _ (List.mem_of_getElem? (i := 94) rfl), rfl⟩
set_option maxRecDepth 20000 in
theorem kw_1289 : Cond.lays "java/lang/Throwable" "java/lang/Throwable" "cause" "Ljava/lang/Throwable;" ∈ kt_T := List.mem_filter.mpr ⟨kc_tables_1_3 _ (List.mem_of_getElem? (i := 51) rfl), rfl⟩
set_option maxRecDepth 20000 in
theorem kw_1290 : Cond.fieldLink "java/lang/Throwable" 17 "java/lang/Throwable" "stackTrace" "[Ljava/lang/StackTraceElement;" ∈ kt_T := List.mem_filter.mpr ⟨kc_tables_1_3 _ (List.mem_of_getElem? (i := 95) rfl), rfl⟩
set_option maxRecDepth 20000 in
theorem kw_1291 : Cond.lays "java/lang/Throwable" "java/lang/Throwable" "stackTrace" "[Ljava/lang/StackTraceElement;" ∈ kt_T := List.mem_filter.mpr ⟨kc_tables_1_3 _ (List.mem_of_getElem? (i := 53) rfl), rfl⟩
set_option maxRecDepth 20000 in
theorem kw_1292 : Cond.fieldLink "java/lang/Throwable" 24 "java/lang/Throwable" "suppressedExceptions" "Ljava/util/List;" ∈ kt_T := List.mem_filter.mpr ⟨kc_tables_1_3 _ (List.mem_of_getElem? (i := 96) rfl), rfl⟩
set_option maxRecDepth 20000 in
theorem kw_1293 : Cond.lays "java/lang/Throwable" "java/lang/Throwable" "suppressedExceptions" "Ljava/util/List;" ∈ kt_T := List.mem_filter.mpr ⟨kc_tables_1_3 _ (List.mem_of_getElem? (i := 55) rfl), rfl⟩
set_option maxRecDepth 20000 in
theorem kw_1294 : Cond.fieldLink "java/lang/Throwable" 13 "java/lang/Throwable" "UNASSIGNED_STACK" "[Ljava/lang/StackTraceElement;" ∈ kt_T := List.mem_filter.mpr ⟨kc_tables_1_3 _ (List.mem_of_getElem? (i := 65) rfl), rfl⟩
set_option maxRecDepth 20000 in
theorem kw_1295 : Cond.fieldLink "java/lang/Throwable" 20 "java/lang/Throwable" "SUPPRESSED_SENTINEL" "Ljava/util/List;" ∈ kt_T := List.mem_filter.mpr ⟨kc_tables_1_3 _ (List.mem_of_getElem? (i := 67) rfl), rfl⟩
set_option maxRecDepth 20000 in
theorem kw_1296 : Cond.lays "java/lang/Throwable" "java/lang/Throwable" "detailMessage" "Ljava/lang/String;" ∈ kt_T := List.mem_filter.mpr ⟨kc_tables_1_3 _ (List.mem_of_getElem? (i := 57) rfl), rfl⟩
set_option maxRecDepth 20000 in
theorem kw_1297 : Cond.instanceMethod ⟨"java/lang/Throwable", "<init>", "(Ljava/lang/String;)V"⟩ ∈ kt_T := List.mem_filter.mpr ⟨kc_tables_1_3 _ (List.mem_of_getElem? (i := 90) rfl), rfl⟩
set_option maxRecDepth 20000 in
theorem kw_1298 : Cond.code ⟨"java/lang/Throwable", "<init>", "(Ljava/lang/String;)V"⟩ prog_25_method_2_code 2 none ∈ kt_T := List.mem_filter.mpr ⟨kc_tables_1_3 _ (List.mem_of_getElem? (i := 91) rfl), rfl⟩
set_option maxRecDepth 20000 in
theorem kw_1299 : Cond.fieldLink "java/lang/Throwable" 31 "java/lang/Throwable" "detailMessage" "Ljava/lang/String;" ∈ kt_T := List.mem_filter.mpr ⟨kc_tables_1_3 _ (List.mem_of_getElem? (i := 93) rfl), rfl⟩
set_option maxRecDepth 20000 in
theorem kw_1300 : Cond.instanceMethod ⟨"java/lang/IllegalArgumentException", "<init>", "(Ljava/lang/String;)V"⟩ ∈ kt_T := List.mem_filter.mpr ⟨kc_tables_1_3 _ (List.mem_of_getElem? (i := 81) rfl), rfl⟩
set_option maxRecDepth 20000 in
theorem kw_1301 : Cond.code ⟨"java/lang/IllegalArgumentException", "<init>", "(Ljava/lang/String;)V"⟩ prog_17_method_2_code 2 none ∈ kt_T := List.mem_filter.mpr ⟨kc_tables_1_3 _ (List.mem_of_getElem? (i := 82) rfl), rfl⟩
set_option maxRecDepth 20000 in
theorem kw_1302 : Cond.methodLink "java/lang/IllegalArgumentException" 7 ⟨"java/lang/RuntimeException", "<init>", "(Ljava/lang/String;)V"⟩ ∈ kt_T := List.mem_filter.mpr ⟨kc_tables_1_3 _ (List.mem_of_getElem? (i := 83) rfl), rfl⟩
set_option maxRecDepth 20000 in
theorem kw_1303 : Cond.instanceMethod ⟨"java/lang/RuntimeException", "<init>", "(Ljava/lang/String;)V"⟩ ∈ kt_T := List.mem_filter.mpr ⟨kc_tables_1_3 _ (List.mem_of_getElem? (i := 84) rfl), rfl⟩
set_option maxRecDepth 20000 in
theorem kw_1304 : Cond.code ⟨"java/lang/RuntimeException", "<init>", "(Ljava/lang/String;)V"⟩ prog_20_method_2_code 2 none ∈ kt_T := List.mem_filter.mpr ⟨kc_tables_1_3 _ (List.mem_of_getElem? (i := 85) rfl), rfl⟩
set_option maxRecDepth 20000 in
theorem kw_1305 : Cond.methodLink "java/lang/RuntimeException" 7 ⟨"java/lang/Exception", "<init>", "(Ljava/lang/String;)V"⟩ ∈ kt_T := List.mem_filter.mpr ⟨kc_tables_1_3 _ (List.mem_of_getElem? (i := 86) rfl), rfl⟩
set_option maxRecDepth 20000 in
theorem kw_1306 : Cond.instanceMethod ⟨"java/lang/Exception", "<init>", "(Ljava/lang/String;)V"⟩ ∈ kt_T := List.mem_filter.mpr ⟨kc_tables_1_3 _ (List.mem_of_getElem? (i := 87) rfl), rfl⟩
set_option maxRecDepth 20000 in
theorem kw_1307 : Cond.code ⟨"java/lang/Exception", "<init>", "(Ljava/lang/String;)V"⟩ prog_16_method_2_code 2 none ∈ kt_T := List.mem_filter.mpr ⟨kc_tables_1_3 _ (List.mem_of_getElem? (i := 88) rfl), rfl⟩
set_option maxRecDepth 20000 in
theorem kw_1308 : Cond.methodLink "java/lang/Exception" 7 ⟨"java/lang/Throwable", "<init>", "(Ljava/lang/String;)V"⟩ ∈ kt_T := List.mem_filter.mpr ⟨kc_tables_1_3 _ (List.mem_of_getElem? (i := 89) rfl), rfl⟩
set_option maxRecDepth 20000 in
theorem kw_1309 : Cond.methodLink "KettleChoir" 80 ⟨"java/lang/IllegalArgumentException", "<init>", "(Ljava/lang/String;)V"⟩ ∈ kt_T := List.mem_filter.mpr ⟨kc_tables_1_3 _ (List.mem_of_getElem? (i := 80) rfl), rfl⟩
set_option maxRecDepth 20000 in
theorem kw_1310 : Cond.instantiable "java/lang/IllegalArgumentException" 6 ∈ kt_T := List.mem_filter.mpr ⟨kc_tables_1_3 _ (List.mem_of_getElem? (i := 40) rfl), rfl⟩
set_option maxRecDepth 20000 in
theorem kw_1311 : Cond.selects "java/lang/IllegalArgumentException" ⟨"java/lang/Throwable", "fillInStackTrace", "(I)Ljava/lang/Throwable;"⟩ ⟨"java/lang/Throwable", "fillInStackTrace", "(I)Ljava/lang/Throwable;"⟩ ∈ kt_T := List.mem_filter.mpr ⟨kc_tables_1_3 _ (List.mem_of_getElem? (i := 48) rfl), rfl⟩
set_option maxRecDepth 20000 in
theorem kw_1312 : Cond.selects "java/lang/IllegalArgumentException" ⟨"java/lang/Throwable", "fillInStackTrace", "()Ljava/lang/Throwable;"⟩ ⟨"java/lang/Throwable", "fillInStackTrace", "()Ljava/lang/Throwable;"⟩ ∈ kt_T := List.mem_filter.mpr ⟨kc_tables_1_3 _ (List.mem_of_getElem? (i := 49) rfl), rfl⟩
set_option maxRecDepth 20000 in
theorem kw_1313 : Cond.lays "java/lang/IllegalArgumentException" "java/lang/Throwable" "cause" "Ljava/lang/Throwable;" ∈ kt_T := List.mem_filter.mpr ⟨kc_tables_1_3 _ (List.mem_of_getElem? (i := 50) rfl), rfl⟩
set_option maxRecDepth 20000 in
theorem kw_1314 : Cond.lays "java/lang/IllegalArgumentException" "java/lang/Throwable" "stackTrace" "[Ljava/lang/StackTraceElement;" ∈ kt_T := List.mem_filter.mpr ⟨kc_tables_1_3 _ (List.mem_of_getElem? (i := 52) rfl), rfl⟩
set_option maxRecDepth 20000 in
theorem kw_1315 : Cond.lays "java/lang/IllegalArgumentException" "java/lang/Throwable" "suppressedExceptions" "Ljava/util/List;" ∈ kt_T := List.mem_filter.mpr ⟨kc_tables_1_3 _ (List.mem_of_getElem? (i := 54) rfl), rfl⟩
set_option maxRecDepth 20000 in
theorem kw_1316 : Cond.lays "java/lang/IllegalArgumentException" "java/lang/Throwable" "detailMessage" "Ljava/lang/String;" ∈ kt_T := List.mem_filter.mpr ⟨kc_tables_1_3 _ (List.mem_of_getElem? (i := 56) rfl), rfl⟩
set_option maxRecDepth 20000 in
theorem kw_1317 : Cond.fieldLink "java/lang/Throwable" 198 "java/lang/Throwable" "backtrace" "Ljava/lang/Object;" ∈ kt_T := List.mem_filter.mpr ⟨kc_tables_1_3 _ (List.mem_of_getElem? (i := 60) rfl), rfl⟩
set_option maxRecDepth 20000 in
theorem kw_1318 : Cond.lays "java/lang/Throwable" "java/lang/Throwable" "backtrace" "Ljava/lang/Object;" ∈ kt_T := List.mem_filter.mpr ⟨kc_tables_1_3 _ (List.mem_of_getElem? (i := 59) rfl), rfl⟩
set_option maxRecDepth 20000 in
theorem kw_1319 : Cond.lays "java/lang/IllegalArgumentException" "java/lang/Throwable" "backtrace" "Ljava/lang/Object;" ∈ kt_T := List.mem_filter.mpr ⟨kc_tables_1_3 _ (List.mem_of_getElem? (i := 58) rfl), rfl⟩
set_option maxRecDepth 20000 in
theorem kw_1320 : Cond.instanceMethod ⟨"java/util/NoSuchElementException", "<init>", "(Ljava/lang/String;)V"⟩ ∈ kt_T := List.mem_filter.mpr ⟨kc_tables_1_4 _ (List.mem_of_getElem? (i := 94) rfl), rfl⟩
set_option maxRecDepth 20000 in
theorem kw_1321 : Cond.code ⟨"java/util/NoSuchElementException", "<init>", "(Ljava/lang/String;)V"⟩ prog_29_method_4_code 2 none ∈ kt_T := List.mem_filter.mpr ⟨kc_tables_1_4 _ (List.mem_of_getElem? (i := 95) rfl), rfl⟩
set_option maxRecDepth 20000 in
theorem kw_1322 : Cond.methodLink "java/util/NoSuchElementException" 13 ⟨"java/lang/RuntimeException", "<init>", "(Ljava/lang/String;)V"⟩ ∈ kt_T := List.mem_filter.mpr ⟨kc_tables_1_4 _ (List.mem_of_getElem? (i := 96) rfl), rfl⟩
set_option maxRecDepth 20000 in
theorem kw_1323 : Cond.methodLink "KettleChoir" 143 ⟨"java/util/NoSuchElementException", "<init>", "(Ljava/lang/String;)V"⟩ ∈ kt_T := List.mem_filter.mpr ⟨kc_tables_1_4 _ (List.mem_of_getElem? (i := 93) rfl), rfl⟩
set_option maxRecDepth 20000 in
theorem kw_1324 : Cond.instantiable "java/util/NoSuchElementException" 6 ∈ kt_T := List.mem_filter.mpr ⟨kc_tables_1_4 _ (List.mem_of_getElem? (i := 84) rfl), rfl⟩
set_option maxRecDepth 20000 in
theorem kw_1325 : Cond.selects "java/util/NoSuchElementException" ⟨"java/lang/Throwable", "fillInStackTrace", "(I)Ljava/lang/Throwable;"⟩ ⟨"java/lang/Throwable", "fillInStackTrace", "(I)Ljava/lang/Throwable;"⟩ ∈ kt_T := List.mem_filter.mpr ⟨kc_tables_1_4 _ (List.mem_of_getElem? (i := 86) rfl), rfl⟩
set_option maxRecDepth 20000 in
theorem kw_1326 : Cond.selects "java/util/NoSuchElementException" ⟨"java/lang/Throwable", "fillInStackTrace", "()Ljava/lang/Throwable;"⟩ ⟨"java/lang/Throwable", "fillInStackTrace", "()Ljava/lang/Throwable;"⟩ ∈ kt_T := List.mem_filter.mpr ⟨kc_tables_1_3 _ (List.mem_of_getElem? (i := 72) rfl), rfl⟩
set_option maxRecDepth 20000 in
theorem kw_1327 : Cond.lays "java/util/NoSuchElementException" "java/lang/Throwable" "cause" "Ljava/lang/Throwable;" ∈ kt_T := List.mem_filter.mpr ⟨kc_tables_1_4 _ (List.mem_of_getElem? (i := 87) rfl), rfl⟩
set_option maxRecDepth 20000 in
theorem kw_1328 : Cond.lays "java/util/NoSuchElementException" "java/lang/Throwable" "stackTrace" "[Ljava/lang/StackTraceElement;" ∈ kt_T := List.mem_filter.mpr ⟨kc_tables_1_4 _ (List.mem_of_getElem? (i := 88) rfl), rfl⟩
set_option maxRecDepth 20000 in
theorem kw_1329 : Cond.lays "java/util/NoSuchElementException" "java/lang/Throwable" "suppressedExceptions" "Ljava/util/List;" ∈ kt_T := List.mem_filter.mpr ⟨kc_tables_1_4 _ (List.mem_of_getElem? (i := 89) rfl), rfl⟩
set_option maxRecDepth 20000 in
theorem kw_1330 : Cond.lays "java/util/NoSuchElementException" "java/lang/Throwable" "detailMessage" "Ljava/lang/String;" ∈ kt_T := List.mem_filter.mpr ⟨kc_tables_1_4 _ (List.mem_of_getElem? (i := 90) rfl), rfl⟩
set_option maxRecDepth 20000 in
theorem kw_1331 : Cond.lays "java/util/NoSuchElementException" "java/lang/Throwable" "backtrace" "Ljava/lang/Object;" ∈ kt_T := List.mem_filter.mpr ⟨kc_tables_1_4 _ (List.mem_of_getElem? (i := 91) rfl), rfl⟩
set_option maxRecDepth 20000 in
theorem kw_1332 : Cond.instanceMethod ⟨"java/lang/String", "length", "()I"⟩ ∈ kt_T := List.mem_filter.mpr ⟨kc_tables_1_3 _ (List.mem_of_getElem? (i := 136) rfl), rfl⟩
set_option maxRecDepth 20000 in
theorem kw_1333 : Cond.selects "java/lang/String" ⟨"java/lang/String", "length", "()I"⟩ ⟨"java/lang/String", "length", "()I"⟩ ∈ kt_T := List.mem_filter.mpr ⟨kc_tables_1_3 _ (List.mem_of_getElem? (i := 137) rfl), rfl⟩
set_option maxRecDepth 20000 in
theorem kw_1334 : Cond.code ⟨"java/lang/String", "length", "()I"⟩ prog_21_method_54_code 1 (some .int) ∈ kt_T := List.mem_filter.mpr ⟨kc_tables_1_3 _ (List.mem_of_getElem? (i := 138) rfl), rfl⟩
set_option maxRecDepth 20000 in
theorem kw_1335 : Cond.instanceMethod ⟨"java/lang/String", "charAt", "(I)C"⟩ ∈ kt_T := List.mem_filter.mpr ⟨kc_tables_1_3 _ (List.mem_of_getElem? (i := 146) rfl), rfl⟩
set_option maxRecDepth 20000 in
theorem kw_1336 : Cond.selects "java/lang/String" ⟨"java/lang/String", "charAt", "(I)C"⟩ ⟨"java/lang/String", "charAt", "(I)C"⟩ ∈ kt_T := List.mem_filter.mpr ⟨kc_tables_1_3 _ (List.mem_of_getElem? (i := 147) rfl), rfl⟩
set_option maxRecDepth 20000 in
theorem kw_1337 : Cond.code ⟨"java/lang/String", "charAt", "(I)C"⟩ prog_21_method_56_code 2 (some .char) ∈ kt_T := List.mem_filter.mpr ⟨kc_tables_1_3 _ (List.mem_of_getElem? (i := 148) rfl), rfl⟩
set_option maxRecDepth 20000 in
theorem kw_1338 : Cond.instanceMethod ⟨"java/lang/String", "coder", "()B"⟩ ∈ kt_T := List.mem_filter.mpr ⟨kc_tables_1_3 _ (List.mem_of_getElem? (i := 140) rfl), rfl⟩
set_option maxRecDepth 20000 in
theorem kw_1339 : Cond.selects "java/lang/String" ⟨"java/lang/String", "coder", "()B"⟩ ⟨"java/lang/String", "coder", "()B"⟩ ∈ kt_T := List.mem_filter.mpr ⟨kc_tables_1_3 _ (List.mem_of_getElem? (i := 141) rfl), rfl⟩
set_option maxRecDepth 20000 in
theorem kw_1340 : Cond.code ⟨"java/lang/String", "coder", "()B"⟩ prog_21_method_152_code 1 (some .byte) ∈ kt_T := List.mem_filter.mpr ⟨kc_tables_1_3 _ (List.mem_of_getElem? (i := 142) rfl), rfl⟩
set_option maxRecDepth 20000 in
theorem kw_1341 : Cond.instanceMethod ⟨"java/lang/String", "isLatin1", "()Z"⟩ ∈ kt_T := List.mem_filter.mpr ⟨kc_tables_1_3 _ (List.mem_of_getElem? (i := 150) rfl), rfl⟩
set_option maxRecDepth 20000 in
theorem kw_1342 : Cond.selects "java/lang/String" ⟨"java/lang/String", "isLatin1", "()Z"⟩ ⟨"java/lang/String", "isLatin1", "()Z"⟩ ∈ kt_T := List.mem_filter.mpr ⟨kc_tables_1_3 _ (List.mem_of_getElem? (i := 151) rfl), rfl⟩
set_option maxRecDepth 20000 in
theorem kw_1343 : Cond.code ⟨"java/lang/String", "isLatin1", "()Z"⟩ prog_21_method_154_code 1 (some .boolean) ∈ kt_T := List.mem_filter.mpr ⟨kc_tables_1_3 _ (List.mem_of_getElem? (i := 152) rfl), rfl⟩
set_option maxRecDepth 20000 in
theorem kw_1344 : Cond.static ⟨"java/lang/StringLatin1", "charAt", "([BI)C"⟩ ∈ kt_T := List.mem_filter.mpr ⟨kc_tables_1_3 _ (List.mem_of_getElem? (i := 154) rfl), rfl⟩
set_option maxRecDepth 20000 in
theorem kw_1345 : Cond.code ⟨"java/lang/StringLatin1", "charAt", "([BI)C"⟩ prog_22_method_2_code 2 (some .char) ∈ kt_T := List.mem_filter.mpr ⟨kc_tables_1_3 _ (List.mem_of_getElem? (i := 155) rfl), rfl⟩
set_option maxRecDepth 20000 in
theorem kw_1346 : Cond.static ⟨"java/lang/String", "checkIndex", "(II)V"⟩ ∈ kt_T := List.mem_filter.mpr ⟨kc_tables_1_3 _ (List.mem_of_getElem? (i := 157) rfl), rfl⟩
set_option maxRecDepth 20000 in
theorem kw_1347 : Cond.code ⟨"java/lang/String", "checkIndex", "(II)V"⟩ prog_21_method_155_code 2 none ∈ kt_T := List.mem_filter.mpr ⟨kc_tables_1_3 _ (List.mem_of_getElem? (i := 158) rfl), rfl⟩
set_option maxRecDepth 20000 in
theorem kw_1348 : Cond.static ⟨"jdk/internal/util/Preconditions", "checkIndex", "(IILjava/util/function/BiFunction;)I"⟩ ∈ kt_T := List.mem_filter.mpr ⟨kc_tables_1_3 _ (List.mem_of_getElem? (i := 162) rfl), rfl⟩
set_option maxRecDepth 20000 in
theorem kw_1349 : Cond.code ⟨"jdk/internal/util/Preconditions", "checkIndex", "(IILjava/util/function/BiFunction;)I"⟩ prog_30_method_11_code 3 (some .int) ∈ kt_T := List.mem_filter.mpr ⟨kc_tables_1_3 _ (List.mem_of_getElem? (i := 163) rfl), rfl⟩
set_option maxRecDepth 20000 in
theorem kw_1350 : Cond.methodLink "java/lang/String" 335 ⟨"java/lang/String", "coder", "()B"⟩ ∈ kt_T := List.mem_filter.mpr ⟨kc_tables_1_3 _ (List.mem_of_getElem? (i := 139) rfl), rfl⟩
set_option maxRecDepth 20000 in
theorem kw_1351 : Cond.methodLink "java/lang/String" 492 ⟨"java/lang/String", "isLatin1", "()Z"⟩ ∈ kt_T := List.mem_filter.mpr ⟨kc_tables_1_3 _ (List.mem_of_getElem? (i := 149) rfl), rfl⟩
set_option maxRecDepth 20000 in
theorem kw_1352 : Cond.methodLink "java/lang/String" 495 ⟨"java/lang/StringLatin1", "charAt", "([BI)C"⟩ ∈ kt_T := List.mem_filter.mpr ⟨kc_tables_1_3 _ (List.mem_of_getElem? (i := 153) rfl), rfl⟩
set_option maxRecDepth 20000 in
theorem kw_1353 : Cond.methodLink "java/lang/StringLatin1" 9 ⟨"java/lang/String", "checkIndex", "(II)V"⟩ ∈ kt_T := List.mem_filter.mpr ⟨kc_tables_1_3 _ (List.mem_of_getElem? (i := 156) rfl), rfl⟩
set_option maxRecDepth 20000 in
theorem kw_1354 : Cond.methodLink "java/lang/String" 1059 ⟨"jdk/internal/util/Preconditions", "checkIndex", "(IILjava/util/function/BiFunction;)I"⟩ ∈ kt_T := List.mem_filter.mpr ⟨kc_tables_1_3 _ (List.mem_of_getElem? (i := 161) rfl), rfl⟩
set_option maxRecDepth 20000 in
theorem kw_1355 : Cond.fieldLink "java/lang/String" 38 "java/lang/String" "COMPACT_STRINGS" "Z" ∈ kt_T := List.mem_filter.mpr ⟨kc_tables_1_3 _ (List.mem_of_getElem? (i := 143) rfl), rfl⟩
set_option maxRecDepth 20000 in
theorem kw_1356 : Cond.fieldLink "java/lang/String" 1053 "jdk/internal/util/Preconditions" "SIOOBE_FORMATTER" "Ljava/util/function/BiFunction;" ∈ kt_T := List.mem_filter.mpr ⟨kc_tables_1_3 _ (List.mem_of_getElem? (i := 159) rfl), rfl⟩
set_option maxRecDepth 20000 in
theorem kw_1357 : Cond.fieldLink "java/lang/String" 9 "java/lang/String" "value" "[B" ∈ kt_T := List.mem_filter.mpr ⟨kc_tables_1_8 _ (List.mem_of_getElem? (i := 84) rfl), rfl⟩
set_option maxRecDepth 20000 in
theorem kw_1358 : Cond.fieldLink "java/lang/String" 15 "java/lang/String" "coder" "B" ∈ kt_T := List.mem_filter.mpr ⟨kc_tables_1_8 _ (List.mem_of_getElem? (i := 85) rfl), rfl⟩
set_option maxRecDepth 20000 in
theorem kw_1359 : Cond.initialized "java/lang/String" ∈ kt_T := List.mem_filter.mpr ⟨kc_tables_1_1 _ (List.mem_of_getElem? (i := 16) rfl), rfl⟩
set_option maxRecDepth 20000 in
theorem kw_1360 : Cond.initialized "java/lang/StringLatin1" ∈ kt_T := List.mem_filter.mpr ⟨kc_tables_1_1 _ (List.mem_of_getElem? (i := 17) rfl), rfl⟩
set_option maxRecDepth 20000 in
theorem kw_1361 : Cond.initialized "jdk/internal/util/Preconditions" ∈ kt_T := List.mem_filter.mpr ⟨kc_tables_1_1 _ (List.mem_of_getElem? (i := 18) rfl), rfl⟩
set_option maxRecDepth 20000 in
theorem kw_1362 : Cond.laysFinal "KettleChoir$Acts" "KettleChoir$Acts" "rows" "[I" ∈ kt_T := List.mem_filter.mpr ⟨kc_tables_1_1 _ (List.mem_of_getElem? (i := 190) rfl), rfl⟩
set_option maxRecDepth 20000 in
theorem kw_1363 : Cond.lays "KettleChoir$Acts" "KettleChoir$Acts" "first" "I" ∈ kt_T := List.mem_filter.mpr ⟨kc_tables_1_1 _ (List.mem_of_getElem? (i := 192) rfl), rfl⟩
set_option maxRecDepth 20000 in
theorem kw_1364 : Cond.lays "KettleChoir$Acts" "KettleChoir$Acts" "many" "I" ∈ kt_T := List.mem_filter.mpr ⟨kc_tables_1_1 _ (List.mem_of_getElem? (i := 194) rfl), rfl⟩
set_option maxRecDepth 20000 in
theorem kw_1365 : Cond.instantiable "KettleChoir$Acts" 3 ∈ kt_T := List.mem_filter.mpr ⟨kc_tables_1_1 _ (List.mem_of_getElem? (i := 181) rfl), rfl⟩
set_option maxRecDepth 20000 in
theorem kw_1366 : Cond.laysFinal "KettleChoir$Ear" "KettleChoir$Ear" "trial" "[I" ∈ kt_T := List.mem_filter.mpr ⟨kc_tables_1_1 _ (List.mem_of_getElem? (i := 237) rfl), rfl⟩
set_option maxRecDepth 20000 in
theorem kw_1367 : Cond.laysFinal "KettleChoir$Ear" "KettleChoir$Ear" "choir" "[J" ∈ kt_T := List.mem_filter.mpr ⟨kc_tables_1_1 _ (List.mem_of_getElem? (i := 239) rfl), rfl⟩
set_option maxRecDepth 20000 in
theorem kw_1368 : Cond.laysFinal "KettleChoir$Ear" "KettleChoir$Ear" "unlike" "[I" ∈ kt_T := List.mem_filter.mpr ⟨kc_tables_1_2 _ (List.mem_of_getElem? (i := 1) rfl), rfl⟩
set_option maxRecDepth 20000 in
theorem kw_1369 : Cond.lays "KettleChoir$Ear" "KettleChoir$Ear" "unlikeChoirs" "[J" ∈ kt_T := List.mem_filter.mpr ⟨kc_tables_1_2 _ (List.mem_of_getElem? (i := 3) rfl), rfl⟩
set_option maxRecDepth 20000 in
theorem kw_1370 : Cond.lays "KettleChoir$Ear" "KettleChoir$Ear" "known" "Z" ∈ kt_T := List.mem_filter.mpr ⟨kc_tables_1_2 _ (List.mem_of_getElem? (i := 5) rfl), rfl⟩
set_option maxRecDepth 20000 in
theorem kw_1371 : Cond.lays "KettleChoir$Ear" "KettleChoir$Ear" "many" "I" ∈ kt_T := List.mem_filter.mpr ⟨kc_tables_1_2 _ (List.mem_of_getElem? (i := 7) rfl), rfl⟩
set_option maxRecDepth 20000 in
theorem kw_1372 : Cond.lays "KettleChoir$Ear" "KettleChoir$Ear" "first" "I" ∈ kt_T := List.mem_filter.mpr ⟨kc_tables_1_2 _ (List.mem_of_getElem? (i := 9) rfl), rfl⟩
set_option maxRecDepth 20000 in
theorem kw_1373 : Cond.lays "KettleChoir$Ear" "KettleChoir$Ear" "minute" "I" ∈ kt_T := List.mem_filter.mpr ⟨kc_tables_1_2 _ (List.mem_of_getElem? (i := 11) rfl), rfl⟩
set_option maxRecDepth 20000 in
theorem kw_1374 : Cond.lays "KettleChoir$Ear" "KettleChoir$Ear" "choirs" "I" ∈ kt_T := List.mem_filter.mpr ⟨kc_tables_1_2 _ (List.mem_of_getElem? (i := 13) rfl), rfl⟩
set_option maxRecDepth 20000 in
theorem kw_1375 : Cond.instantiable "KettleChoir$Ear" 9 ∈ kt_T := List.mem_filter.mpr ⟨kc_tables_1_1 _ (List.mem_of_getElem? (i := 218) rfl), rfl⟩
set_option maxRecDepth 20000 in
theorem kw_1376 : Cond.laysFinal "KettleChoir$Heard" "KettleChoir$Heard" "minute" "[I" ∈ kt_T := List.mem_filter.mpr ⟨kc_tables_1_1 _ (List.mem_of_getElem? (i := 210) rfl), rfl⟩
set_option maxRecDepth 20000 in
theorem kw_1377 : Cond.laysFinal "KettleChoir$Heard" "KettleChoir$Heard" "note" "[I" ∈ kt_T := List.mem_filter.mpr ⟨kc_tables_1_1 _ (List.mem_of_getElem? (i := 212) rfl), rfl⟩
set_option maxRecDepth 20000 in
theorem kw_1378 : Cond.lays "KettleChoir$Heard" "KettleChoir$Heard" "many" "I" ∈ kt_T := List.mem_filter.mpr ⟨kc_tables_1_1 _ (List.mem_of_getElem? (i := 214) rfl), rfl⟩
set_option maxRecDepth 20000 in
theorem kw_1379 : Cond.instantiable "KettleChoir$Heard" 3 ∈ kt_T := List.mem_filter.mpr ⟨kc_tables_1_1 _ (List.mem_of_getElem? (i := 198) rfl), rfl⟩
set_option maxRecDepth 20000 in
theorem kw_1380 : Cond.laysFinal "KettleChoir$Image" "KettleChoir$Image" "row" "[I" ∈ kt_T := List.mem_filter.mpr ⟨kc_tables_1_3 _ (List.mem_of_getElem? (i := 0) rfl), rfl⟩
set_option maxRecDepth 20000 in
theorem kw_1381 : Cond.laysFinal "KettleChoir$Image" "KettleChoir$Image" "acts" "LKettleChoir$Acts;" ∈ kt_T := List.mem_filter.mpr ⟨kc_tables_1_3 _ (List.mem_of_getElem? (i := 2) rfl), rfl⟩
set_option maxRecDepth 20000 in
theorem kw_1382 : Cond.laysFinal "KettleChoir$Image" "KettleChoir$Image" "heard" "LKettleChoir$Heard;" ∈ kt_T := List.mem_filter.mpr ⟨kc_tables_1_3 _ (List.mem_of_getElem? (i := 4) rfl), rfl⟩
set_option maxRecDepth 20000 in
theorem kw_1383 : Cond.laysFinal "KettleChoir$Image" "KettleChoir$Image" "status" "[I" ∈ kt_T := List.mem_filter.mpr ⟨kc_tables_1_3 _ (List.mem_of_getElem? (i := 6) rfl), rfl⟩
set_option maxRecDepth 20000 in
theorem kw_1384 : Cond.instantiable "KettleChoir$Image" 4 ∈ kt_T := List.mem_filter.mpr ⟨kc_tables_1_2 _ (List.mem_of_getElem? (i := 227) rfl), rfl⟩
set_option maxRecDepth 20000 in
theorem kw_1385 : Cond.laysFinal "KettleChoir$Kitchen" "KettleChoir$Kitchen" "kind" "[I" ∈ kt_T := List.mem_filter.mpr ⟨kc_tables_1_1 _ (List.mem_of_getElem? (i := 110) rfl), rfl⟩
set_option maxRecDepth 20000 in
theorem kw_1386 : Cond.laysFinal "KettleChoir$Kitchen" "KettleChoir$Kitchen" "spout" "[I" ∈ kt_T := List.mem_filter.mpr ⟨kc_tables_1_1 _ (List.mem_of_getElem? (i := 112) rfl), rfl⟩
set_option maxRecDepth 20000 in
theorem kw_1387 : Cond.laysFinal "KettleChoir$Kitchen" "KettleChoir$Kitchen" "size" "[I" ∈ kt_T := List.mem_filter.mpr ⟨kc_tables_1_1 _ (List.mem_of_getElem? (i := 114) rfl), rfl⟩
set_option maxRecDepth 20000 in
theorem kw_1388 : Cond.laysFinal "KettleChoir$Kitchen" "KettleChoir$Kitchen" "firstFill" "[I" ∈ kt_T := List.mem_filter.mpr ⟨kc_tables_1_1 _ (List.mem_of_getElem? (i := 116) rfl), rfl⟩
set_option maxRecDepth 20000 in
theorem kw_1389 : Cond.laysFinal "KettleChoir$Kitchen" "KettleChoir$Kitchen" "firstChalk" "[I" ∈ kt_T := List.mem_filter.mpr ⟨kc_tables_1_1 _ (List.mem_of_getElem? (i := 118) rfl), rfl⟩
set_option maxRecDepth 20000 in
theorem kw_1390 : Cond.laysFinal "KettleChoir$Kitchen" "KettleChoir$Kitchen" "power" "[I" ∈ kt_T := List.mem_filter.mpr ⟨kc_tables_1_1 _ (List.mem_of_getElem? (i := 120) rfl), rfl⟩
set_option maxRecDepth 20000 in
theorem kw_1391 : Cond.laysFinal "KettleChoir$Kitchen" "KettleChoir$Kitchen" "steps" "[I" ∈ kt_T := List.mem_filter.mpr ⟨kc_tables_1_1 _ (List.mem_of_getElem? (i := 122) rfl), rfl⟩
set_option maxRecDepth 20000 in
theorem kw_1392 : Cond.laysFinal "KettleChoir$Kitchen" "KettleChoir$Kitchen" "step" "[I" ∈ kt_T := List.mem_filter.mpr ⟨kc_tables_1_1 _ (List.mem_of_getElem? (i := 124) rfl), rfl⟩
set_option maxRecDepth 20000 in
theorem kw_1393 : Cond.laysFinal "KettleChoir$Kitchen" "KettleChoir$Kitchen" "rule" "LKettleChoir$Rule;" ∈ kt_T := List.mem_filter.mpr ⟨kc_tables_1_1 _ (List.mem_of_getElem? (i := 126) rfl), rfl⟩
set_option maxRecDepth 20000 in
theorem kw_1394 : Cond.laysFinal "KettleChoir$Kitchen" "KettleChoir$Kitchen" "values" "[I" ∈ kt_T := List.mem_filter.mpr ⟨kc_tables_1_1 _ (List.mem_of_getElem? (i := 128) rfl), rfl⟩
set_option maxRecDepth 20000 in
theorem kw_1395 : Cond.lays "KettleChoir$Kitchen" "KettleChoir$Kitchen" "kettles" "I" ∈ kt_T := List.mem_filter.mpr ⟨kc_tables_1_1 _ (List.mem_of_getElem? (i := 130) rfl), rfl⟩
set_option maxRecDepth 20000 in
theorem kw_1396 : Cond.lays "KettleChoir$Kitchen" "KettleChoir$Kitchen" "stoves" "I" ∈ kt_T := List.mem_filter.mpr ⟨kc_tables_1_1 _ (List.mem_of_getElem? (i := 132) rfl), rfl⟩
set_option maxRecDepth 20000 in
theorem kw_1397 : Cond.lays "KettleChoir$Kitchen" "KettleChoir$Kitchen" "dishes" "I" ∈ kt_T := List.mem_filter.mpr ⟨kc_tables_1_1 _ (List.mem_of_getElem? (i := 134) rfl), rfl⟩
set_option maxRecDepth 20000 in
theorem kw_1398 : Cond.lays "KettleChoir$Kitchen" "KettleChoir$Kitchen" "notes" "J" ∈ kt_T := List.mem_filter.mpr ⟨kc_tables_1_1 _ (List.mem_of_getElem? (i := 136) rfl), rfl⟩
set_option maxRecDepth 20000 in
theorem kw_1399 : Cond.lays "KettleChoir$Kitchen" "KettleChoir$Kitchen" "singers" "I" ∈ kt_T := List.mem_filter.mpr ⟨kc_tables_1_1 _ (List.mem_of_getElem? (i := 138) rfl), rfl⟩
set_option maxRecDepth 20000 in
theorem kw_1400 : Cond.instantiable "KettleChoir$Kitchen" 15 ∈ kt_T := List.mem_filter.mpr ⟨kc_tables_1_1 _ (List.mem_of_getElem? (i := 40) rfl), rfl⟩
set_option maxRecDepth 20000 in
theorem kw_1401 : Cond.laysFinal "KettleChoir$Planner" "KettleChoir$Planner" "trial" "[I" ∈ kt_T := List.mem_filter.mpr ⟨kc_tables_1_2 _ (List.mem_of_getElem? (i := 31) rfl), rfl⟩
set_option maxRecDepth 20000 in
theorem kw_1402 : Cond.laysFinal "KettleChoir$Planner" "KettleChoir$Planner" "tried" "[I" ∈ kt_T := List.mem_filter.mpr ⟨kc_tables_1_2 _ (List.mem_of_getElem? (i := 33) rfl), rfl⟩
set_option maxRecDepth 20000 in
theorem kw_1403 : Cond.laysFinal "KettleChoir$Planner" "KettleChoir$Planner" "best" "[I" ∈ kt_T := List.mem_filter.mpr ⟨kc_tables_1_2 _ (List.mem_of_getElem? (i := 35) rfl), rfl⟩
set_option maxRecDepth 20000 in
theorem kw_1404 : Cond.lays "KettleChoir$Planner" "KettleChoir$Planner" "when" "I" ∈ kt_T := List.mem_filter.mpr ⟨kc_tables_1_2 _ (List.mem_of_getElem? (i := 37) rfl), rfl⟩
set_option maxRecDepth 20000 in
theorem kw_1405 : Cond.lays "KettleChoir$Planner" "KettleChoir$Planner" "known" "I" ∈ kt_T := List.mem_filter.mpr ⟨kc_tables_1_2 _ (List.mem_of_getElem? (i := 39) rfl), rfl⟩
set_option maxRecDepth 20000 in
theorem kw_1406 : Cond.instantiable "KettleChoir$Planner" 5 ∈ kt_T := List.mem_filter.mpr ⟨kc_tables_1_2 _ (List.mem_of_getElem? (i := 18) rfl), rfl⟩
set_option maxRecDepth 20000 in
theorem kw_1407 : Cond.laysFinal "KettleChoir$Reader" "KettleChoir$Reader" "tape" "[B" ∈ kt_T := List.mem_filter.mpr ⟨kc_tables_1_1 _ (List.mem_of_getElem? (i := 155) rfl), rfl⟩
set_option maxRecDepth 20000 in
theorem kw_1408 : Cond.laysFinal "KettleChoir$Reader" "KettleChoir$Reader" "draft" "LKettleChoir$Kitchen;" ∈ kt_T := List.mem_filter.mpr ⟨kc_tables_1_1 _ (List.mem_of_getElem? (i := 157) rfl), rfl⟩
set_option maxRecDepth 20000 in
theorem kw_1409 : Cond.lays "KettleChoir$Reader" "KettleChoir$Reader" "taped" "I" ∈ kt_T := List.mem_filter.mpr ⟨kc_tables_1_1 _ (List.mem_of_getElem? (i := 159) rfl), rfl⟩
set_option maxRecDepth 20000 in
theorem kw_1410 : Cond.lays "KettleChoir$Reader" "KettleChoir$Reader" "faultPlace" "I" ∈ kt_T := List.mem_filter.mpr ⟨kc_tables_1_1 _ (List.mem_of_getElem? (i := 161) rfl), rfl⟩
set_option maxRecDepth 20000 in
theorem kw_1411 : Cond.lays "KettleChoir$Reader" "KettleChoir$Reader" "end" "I" ∈ kt_T := List.mem_filter.mpr ⟨kc_tables_1_1 _ (List.mem_of_getElem? (i := 163) rfl), rfl⟩
set_option maxRecDepth 20000 in
theorem kw_1412 : Cond.lays "KettleChoir$Reader" "KettleChoir$Reader" "at" "I" ∈ kt_T := List.mem_filter.mpr ⟨kc_tables_1_1 _ (List.mem_of_getElem? (i := 165) rfl), rfl⟩
set_option maxRecDepth 20000 in
theorem kw_1413 : Cond.lays "KettleChoir$Reader" "KettleChoir$Reader" "token" "I" ∈ kt_T := List.mem_filter.mpr ⟨kc_tables_1_1 _ (List.mem_of_getElem? (i := 167) rfl), rfl⟩
set_option maxRecDepth 20000 in
theorem kw_1414 : Cond.lays "KettleChoir$Reader" "KettleChoir$Reader" "start" "I" ∈ kt_T := List.mem_filter.mpr ⟨kc_tables_1_1 _ (List.mem_of_getElem? (i := 169) rfl), rfl⟩
set_option maxRecDepth 20000 in
theorem kw_1415 : Cond.lays "KettleChoir$Reader" "KettleChoir$Reader" "number" "I" ∈ kt_T := List.mem_filter.mpr ⟨kc_tables_1_1 _ (List.mem_of_getElem? (i := 171) rfl), rfl⟩
set_option maxRecDepth 20000 in
theorem kw_1416 : Cond.lays "KettleChoir$Reader" "KettleChoir$Reader" "hasRule" "Z" ∈ kt_T := List.mem_filter.mpr ⟨kc_tables_1_1 _ (List.mem_of_getElem? (i := 173) rfl), rfl⟩
set_option maxRecDepth 20000 in
theorem kw_1417 : Cond.lays "KettleChoir$Reader" "KettleChoir$Reader" "fault" "I" ∈ kt_T := List.mem_filter.mpr ⟨kc_tables_1_1 _ (List.mem_of_getElem? (i := 175) rfl), rfl⟩
set_option maxRecDepth 20000 in
theorem kw_1418 : Cond.instantiable "KettleChoir$Reader" 11 ∈ kt_T := List.mem_filter.mpr ⟨kc_tables_1_1 _ (List.mem_of_getElem? (i := 34) rfl), rfl⟩
set_option maxRecDepth 20000 in
theorem kw_1419 : Cond.laysFinal "KettleChoir$Rule" "KettleChoir$Rule" "code" "[I" ∈ kt_T := List.mem_filter.mpr ⟨kc_tables_1_1 _ (List.mem_of_getElem? (i := 55) rfl), rfl⟩
set_option maxRecDepth 20000 in
theorem kw_1420 : Cond.laysFinal "KettleChoir$Rule" "KettleChoir$Rule" "stack" "[I" ∈ kt_T := List.mem_filter.mpr ⟨kc_tables_1_1 _ (List.mem_of_getElem? (i := 57) rfl), rfl⟩
set_option maxRecDepth 20000 in
theorem kw_1421 : Cond.lays "KettleChoir$Rule" "KettleChoir$Rule" "length" "I" ∈ kt_T := List.mem_filter.mpr ⟨kc_tables_1_1 _ (List.mem_of_getElem? (i := 59) rfl), rfl⟩
set_option maxRecDepth 20000 in
theorem kw_1422 : Cond.instantiable "KettleChoir$Rule" 3 ∈ kt_T := List.mem_filter.mpr ⟨kc_tables_1_1 _ (List.mem_of_getElem? (i := 46) rfl), rfl⟩
set_option maxRecDepth 20000 in
theorem kw_1423 : Cond.laysFinal "KettleChoir$Tuner" "KettleChoir$Tuner" "note" "[I" ∈ kt_T := List.mem_filter.mpr ⟨kc_tables_1_2 _ (List.mem_of_getElem? (i := 51) rfl), rfl⟩
set_option maxRecDepth 20000 in
theorem kw_1424 : Cond.laysFinal "KettleChoir$Tuner" "KettleChoir$Tuner" "cost" "[I" ∈ kt_T := List.mem_filter.mpr ⟨kc_tables_1_2 _ (List.mem_of_getElem? (i := 53) rfl), rfl⟩
set_option maxRecDepth 20000 in
theorem kw_1425 : Cond.laysFinal "KettleChoir$Tuner" "KettleChoir$Tuner" "cups" "[I" ∈ kt_T := List.mem_filter.mpr ⟨kc_tables_1_2 _ (List.mem_of_getElem? (i := 55) rfl), rfl⟩
set_option maxRecDepth 20000 in
theorem kw_1426 : Cond.instantiable "KettleChoir$Tuner" 3 ∈ kt_T := List.mem_filter.mpr ⟨kc_tables_1_2 _ (List.mem_of_getElem? (i := 43) rfl), rfl⟩
set_option maxRecDepth 20000 in
theorem kw_1427 : Cond.laysFinal "KettleChoir" "KettleChoir" "reader" "LKettleChoir$Reader;" ∈ kt_T := List.mem_filter.mpr ⟨kc_tables_1_2 _ (List.mem_of_getElem? (i := 70) rfl), rfl⟩
set_option maxRecDepth 20000 in
theorem kw_1428 : Cond.laysFinal "KettleChoir" "KettleChoir" "place" "LKettleChoir$Kitchen;" ∈ kt_T := List.mem_filter.mpr ⟨kc_tables_1_2 _ (List.mem_of_getElem? (i := 72) rfl), rfl⟩
set_option maxRecDepth 20000 in
theorem kw_1429 : Cond.laysFinal "KettleChoir" "KettleChoir" "now" "[I" ∈ kt_T := List.mem_filter.mpr ⟨kc_tables_1_2 _ (List.mem_of_getElem? (i := 74) rfl), rfl⟩
set_option maxRecDepth 20000 in
theorem kw_1430 : Cond.laysFinal "KettleChoir" "KettleChoir" "trial" "[I" ∈ kt_T := List.mem_filter.mpr ⟨kc_tables_1_2 _ (List.mem_of_getElem? (i := 76) rfl), rfl⟩
set_option maxRecDepth 20000 in
theorem kw_1431 : Cond.laysFinal "KettleChoir" "KettleChoir" "status" "[I" ∈ kt_T := List.mem_filter.mpr ⟨kc_tables_1_2 _ (List.mem_of_getElem? (i := 78) rfl), rfl⟩
set_option maxRecDepth 20000 in
theorem kw_1432 : Cond.laysFinal "KettleChoir" "KettleChoir" "acts" "LKettleChoir$Acts;" ∈ kt_T := List.mem_filter.mpr ⟨kc_tables_1_2 _ (List.mem_of_getElem? (i := 80) rfl), rfl⟩
set_option maxRecDepth 20000 in
theorem kw_1433 : Cond.laysFinal "KettleChoir" "KettleChoir" "heard" "LKettleChoir$Heard;" ∈ kt_T := List.mem_filter.mpr ⟨kc_tables_1_2 _ (List.mem_of_getElem? (i := 82) rfl), rfl⟩
set_option maxRecDepth 20000 in
theorem kw_1434 : Cond.laysFinal "KettleChoir" "KettleChoir" "ear" "LKettleChoir$Ear;" ∈ kt_T := List.mem_filter.mpr ⟨kc_tables_1_2 _ (List.mem_of_getElem? (i := 84) rfl), rfl⟩
set_option maxRecDepth 20000 in
theorem kw_1435 : Cond.laysFinal "KettleChoir" "KettleChoir" "planner" "LKettleChoir$Planner;" ∈ kt_T := List.mem_filter.mpr ⟨kc_tables_1_2 _ (List.mem_of_getElem? (i := 86) rfl), rfl⟩
set_option maxRecDepth 20000 in
theorem kw_1436 : Cond.laysFinal "KettleChoir" "KettleChoir" "tuner" "LKettleChoir$Tuner;" ∈ kt_T := List.mem_filter.mpr ⟨kc_tables_1_2 _ (List.mem_of_getElem? (i := 88) rfl), rfl⟩
set_option maxRecDepth 20000 in
theorem kw_1437 : Cond.lays "KettleChoir" "KettleChoir" "kept" "LKettleChoir$Image;" ∈ kt_T := List.mem_filter.mpr ⟨kc_tables_1_2 _ (List.mem_of_getElem? (i := 90) rfl), rfl⟩
set_option maxRecDepth 20000 in
theorem kw_1438 : Cond.lays "KettleChoir" "KettleChoir" "hasImage" "Z" ∈ kt_T := List.mem_filter.mpr ⟨kc_tables_1_2 _ (List.mem_of_getElem? (i := 92) rfl), rfl⟩
set_option maxRecDepth 20000 in
theorem kw_1439 : Cond.instantiable "KettleChoir" 12 ∈ kt_T := List.mem_filter.mpr ⟨kc_tables_1_1 _ (List.mem_of_getElem? (i := 26) rfl), rfl⟩
set_option maxRecDepth 20000 in
theorem kw_1440 : Cond.laysFinal "KettleChoirModel" "KettleChoirModel" "kinds" "[Ljava/lang/String;" ∈ kt_T := List.mem_filter.mpr ⟨kc_tables_1_6 _ (List.mem_of_getElem? (i := 7) rfl), rfl⟩
set_option maxRecDepth 20000 in
theorem kw_1441 : Cond.laysFinal "KettleChoirModel" "KettleChoirModel" "values" "[Ljava/lang/String;" ∈ kt_T := List.mem_filter.mpr ⟨kc_tables_1_6 _ (List.mem_of_getElem? (i := 9) rfl), rfl⟩
set_option maxRecDepth 20000 in
theorem kw_1442 : Cond.lays "KettleChoirModel" "KettleChoirModel" "code" "I" ∈ kt_T := List.mem_filter.mpr ⟨kc_tables_1_6 _ (List.mem_of_getElem? (i := 11) rfl), rfl⟩
set_option maxRecDepth 20000 in
theorem kw_1443 : Cond.laysFinal "KettleChoirModel" "KettleChoirModel" "told" "[I" ∈ kt_T := List.mem_filter.mpr ⟨kc_tables_1_6 _ (List.mem_of_getElem? (i := 13) rfl), rfl⟩
set_option maxRecDepth 20000 in
theorem kw_1444 : Cond.laysFinal "KettleChoirModel" "KettleChoirModel" "kind" "[I" ∈ kt_T := List.mem_filter.mpr ⟨kc_tables_1_6 _ (List.mem_of_getElem? (i := 15) rfl), rfl⟩
set_option maxRecDepth 20000 in
theorem kw_1445 : Cond.laysFinal "KettleChoirModel" "KettleChoirModel" "spout" "[I" ∈ kt_T := List.mem_filter.mpr ⟨kc_tables_1_6 _ (List.mem_of_getElem? (i := 17) rfl), rfl⟩
set_option maxRecDepth 20000 in
theorem kw_1446 : Cond.laysFinal "KettleChoirModel" "KettleChoirModel" "sizeOf" "[I" ∈ kt_T := List.mem_filter.mpr ⟨kc_tables_1_6 _ (List.mem_of_getElem? (i := 19) rfl), rfl⟩
set_option maxRecDepth 20000 in
theorem kw_1447 : Cond.laysFinal "KettleChoirModel" "KettleChoirModel" "fillTold" "[I" ∈ kt_T := List.mem_filter.mpr ⟨kc_tables_1_6 _ (List.mem_of_getElem? (i := 21) rfl), rfl⟩
set_option maxRecDepth 20000 in
theorem kw_1448 : Cond.laysFinal "KettleChoirModel" "KettleChoirModel" "chalkTold" "[I" ∈ kt_T := List.mem_filter.mpr ⟨kc_tables_1_6 _ (List.mem_of_getElem? (i := 23) rfl), rfl⟩
set_option maxRecDepth 20000 in
theorem kw_1449 : Cond.laysFinal "KettleChoirModel" "KettleChoirModel" "power" "[I" ∈ kt_T := List.mem_filter.mpr ⟨kc_tables_1_6 _ (List.mem_of_getElem? (i := 25) rfl), rfl⟩
set_option maxRecDepth 20000 in
theorem kw_1450 : Cond.laysFinal "KettleChoirModel" "KettleChoirModel" "stepMany" "[I" ∈ kt_T := List.mem_filter.mpr ⟨kc_tables_1_6 _ (List.mem_of_getElem? (i := 27) rfl), rfl⟩
set_option maxRecDepth 20000 in
theorem kw_1451 : Cond.laysFinal "KettleChoirModel" "KettleChoirModel" "steps" "[I" ∈ kt_T := List.mem_filter.mpr ⟨kc_tables_1_6 _ (List.mem_of_getElem? (i := 29) rfl), rfl⟩
set_option maxRecDepth 20000 in
theorem kw_1452 : Cond.laysFinal "KettleChoirModel" "KettleChoirModel" "signs" "[I" ∈ kt_T := List.mem_filter.mpr ⟨kc_tables_1_6 _ (List.mem_of_getElem? (i := 31) rfl), rfl⟩
set_option maxRecDepth 20000 in
theorem kw_1453 : Cond.laysFinal "KettleChoirModel" "KettleChoirModel" "status" "[I" ∈ kt_T := List.mem_filter.mpr ⟨kc_tables_1_6 _ (List.mem_of_getElem? (i := 33) rfl), rfl⟩
set_option maxRecDepth 20000 in
theorem kw_1454 : Cond.laysFinal "KettleChoirModel" "KettleChoirModel" "tape" "[I" ∈ kt_T := List.mem_filter.mpr ⟨kc_tables_1_6 _ (List.mem_of_getElem? (i := 35) rfl), rfl⟩
set_option maxRecDepth 20000 in
theorem kw_1455 : Cond.lays "KettleChoirModel" "KettleChoirModel" "taped" "I" ∈ kt_T := List.mem_filter.mpr ⟨kc_tables_1_6 _ (List.mem_of_getElem? (i := 37) rfl), rfl⟩
set_option maxRecDepth 20000 in
theorem kw_1456 : Cond.lays "KettleChoirModel" "KettleChoirModel" "at" "I" ∈ kt_T := List.mem_filter.mpr ⟨kc_tables_1_6 _ (List.mem_of_getElem? (i := 39) rfl), rfl⟩
set_option maxRecDepth 20000 in
theorem kw_1457 : Cond.lays "KettleChoirModel" "KettleChoirModel" "size" "I" ∈ kt_T := List.mem_filter.mpr ⟨kc_tables_1_6 _ (List.mem_of_getElem? (i := 41) rfl), rfl⟩
set_option maxRecDepth 20000 in
theorem kw_1458 : Cond.lays "KettleChoirModel" "KettleChoirModel" "token" "I" ∈ kt_T := List.mem_filter.mpr ⟨kc_tables_1_6 _ (List.mem_of_getElem? (i := 43) rfl), rfl⟩
set_option maxRecDepth 20000 in
theorem kw_1459 : Cond.lays "KettleChoirModel" "KettleChoirModel" "number" "I" ∈ kt_T := List.mem_filter.mpr ⟨kc_tables_1_6 _ (List.mem_of_getElem? (i := 45) rfl), rfl⟩
set_option maxRecDepth 20000 in
theorem kw_1460 : Cond.lays "KettleChoirModel" "KettleChoirModel" "begins" "I" ∈ kt_T := List.mem_filter.mpr ⟨kc_tables_1_6 _ (List.mem_of_getElem? (i := 47) rfl), rfl⟩
set_option maxRecDepth 20000 in
theorem kw_1461 : Cond.lays "KettleChoirModel" "KettleChoirModel" "stops" "I" ∈ kt_T := List.mem_filter.mpr ⟨kc_tables_1_6 _ (List.mem_of_getElem? (i := 49) rfl), rfl⟩
set_option maxRecDepth 20000 in
theorem kw_1462 : Cond.lays "KettleChoirModel" "KettleChoirModel" "bad" "I" ∈ kt_T := List.mem_filter.mpr ⟨kc_tables_1_6 _ (List.mem_of_getElem? (i := 51) rfl), rfl⟩
set_option maxRecDepth 20000 in
theorem kw_1463 : Cond.lays "KettleChoirModel" "KettleChoirModel" "badPlace" "I" ∈ kt_T := List.mem_filter.mpr ⟨kc_tables_1_6 _ (List.mem_of_getElem? (i := 53) rfl), rfl⟩
set_option maxRecDepth 20000 in
theorem kw_1464 : Cond.lays "KettleChoirModel" "KettleChoirModel" "faultPlace" "I" ∈ kt_T := List.mem_filter.mpr ⟨kc_tables_1_6 _ (List.mem_of_getElem? (i := 55) rfl), rfl⟩
set_option maxRecDepth 20000 in
theorem kw_1465 : Cond.laysFinal "KettleChoirModel" "KettleChoirModel" "on" "[I" ∈ kt_T := List.mem_filter.mpr ⟨kc_tables_1_6 _ (List.mem_of_getElem? (i := 57) rfl), rfl⟩
set_option maxRecDepth 20000 in
theorem kw_1466 : Cond.laysFinal "KettleChoirModel" "KettleChoirModel" "heat" "[I" ∈ kt_T := List.mem_filter.mpr ⟨kc_tables_1_6 _ (List.mem_of_getElem? (i := 59) rfl), rfl⟩
set_option maxRecDepth 20000 in
theorem kw_1467 : Cond.laysFinal "KettleChoirModel" "KettleChoirModel" "fill" "[I" ∈ kt_T := List.mem_filter.mpr ⟨kc_tables_1_6 _ (List.mem_of_getElem? (i := 61) rfl), rfl⟩
set_option maxRecDepth 20000 in
theorem kw_1468 : Cond.laysFinal "KettleChoirModel" "KettleChoirModel" "chalk" "[I" ∈ kt_T := List.mem_filter.mpr ⟨kc_tables_1_6 _ (List.mem_of_getElem? (i := 63) rfl), rfl⟩
set_option maxRecDepth 20000 in
theorem kw_1469 : Cond.laysFinal "KettleChoirModel" "KettleChoirModel" "sung" "[I" ∈ kt_T := List.mem_filter.mpr ⟨kc_tables_1_6 _ (List.mem_of_getElem? (i := 65) rfl), rfl⟩
set_option maxRecDepth 20000 in
theorem kw_1470 : Cond.laysFinal "KettleChoirModel" "KettleChoirModel" "note" "[I" ∈ kt_T := List.mem_filter.mpr ⟨kc_tables_1_6 _ (List.mem_of_getElem? (i := 67) rfl), rfl⟩
set_option maxRecDepth 20000 in
theorem kw_1471 : Cond.laysFinal "KettleChoirModel" "KettleChoirModel" "ready" "[I" ∈ kt_T := List.mem_filter.mpr ⟨kc_tables_1_6 _ (List.mem_of_getElem? (i := 69) rfl), rfl⟩
set_option maxRecDepth 20000 in
theorem kw_1472 : Cond.laysFinal "KettleChoirModel" "KettleChoirModel" "past" "[I" ∈ kt_T := List.mem_filter.mpr ⟨kc_tables_1_6 _ (List.mem_of_getElem? (i := 71) rfl), rfl⟩
set_option maxRecDepth 20000 in
theorem kw_1473 : Cond.lays "KettleChoirModel" "KettleChoirModel" "minute" "I" ∈ kt_T := List.mem_filter.mpr ⟨kc_tables_1_6 _ (List.mem_of_getElem? (i := 73) rfl), rfl⟩
set_option maxRecDepth 20000 in
theorem kw_1474 : Cond.lays "KettleChoirModel" "KettleChoirModel" "acts" "I" ∈ kt_T := List.mem_filter.mpr ⟨kc_tables_1_6 _ (List.mem_of_getElem? (i := 75) rfl), rfl⟩
set_option maxRecDepth 20000 in
theorem kw_1475 : Cond.lays "KettleChoirModel" "KettleChoirModel" "heard" "I" ∈ kt_T := List.mem_filter.mpr ⟨kc_tables_1_6 _ (List.mem_of_getElem? (i := 77) rfl), rfl⟩
set_option maxRecDepth 20000 in
theorem kw_1476 : Cond.laysFinal "KettleChoirModel" "KettleChoirModel" "asked" "[I" ∈ kt_T := List.mem_filter.mpr ⟨kc_tables_1_6 _ (List.mem_of_getElem? (i := 79) rfl), rfl⟩
set_option maxRecDepth 20000 in
theorem kw_1477 : Cond.laysFinal "KettleChoirModel" "KettleChoirModel" "stack" "[I" ∈ kt_T := List.mem_filter.mpr ⟨kc_tables_1_6 _ (List.mem_of_getElem? (i := 81) rfl), rfl⟩
set_option maxRecDepth 20000 in
theorem kw_1478 : Cond.laysFinal "KettleChoirModel" "KettleChoirModel" "rowThen" "[I" ∈ kt_T := List.mem_filter.mpr ⟨kc_tables_1_6 _ (List.mem_of_getElem? (i := 83) rfl), rfl⟩
set_option maxRecDepth 20000 in
theorem kw_1479 : Cond.laysFinal "KettleChoirModel" "KettleChoirModel" "places" "[I" ∈ kt_T := List.mem_filter.mpr ⟨kc_tables_1_6 _ (List.mem_of_getElem? (i := 85) rfl), rfl⟩
set_option maxRecDepth 20000 in
theorem kw_1480 : Cond.laysFinal "KettleChoirModel" "KettleChoirModel" "bestPlaces" "[I" ∈ kt_T := List.mem_filter.mpr ⟨kc_tables_1_6 _ (List.mem_of_getElem? (i := 87) rfl), rfl⟩
set_option maxRecDepth 20000 in
theorem kw_1481 : Cond.laysFinal "KettleChoirModel" "KettleChoirModel" "rowSoon" "[I" ∈ kt_T := List.mem_filter.mpr ⟨kc_tables_1_6 _ (List.mem_of_getElem? (i := 89) rfl), rfl⟩
set_option maxRecDepth 20000 in
theorem kw_1482 : Cond.lays "KettleChoirModel" "KettleChoirModel" "soon" "I" ∈ kt_T := List.mem_filter.mpr ⟨kc_tables_1_6 _ (List.mem_of_getElem? (i := 91) rfl), rfl⟩
set_option maxRecDepth 20000 in
theorem kw_1483 : Cond.laysFinal "KettleChoirModel" "KettleChoirModel" "heardIn" "[I" ∈ kt_T := List.mem_filter.mpr ⟨kc_tables_1_6 _ (List.mem_of_getElem? (i := 93) rfl), rfl⟩
set_option maxRecDepth 20000 in
theorem kw_1484 : Cond.laysFinal "KettleChoirModel" "KettleChoirModel" "heardNote" "[I" ∈ kt_T := List.mem_filter.mpr ⟨kc_tables_1_6 _ (List.mem_of_getElem? (i := 95) rfl), rfl⟩
set_option maxRecDepth 20000 in
theorem kw_1485 : Cond.laysFinal "KettleChoirModel" "KettleChoirModel" "rowHeard" "[I" ∈ kt_T := List.mem_filter.mpr ⟨kc_tables_1_6 _ (List.mem_of_getElem? (i := 97) rfl), rfl⟩
set_option maxRecDepth 20000 in
theorem kw_1486 : Cond.laysFinal "KettleChoirModel" "KettleChoirModel" "fits" "[I" ∈ kt_T := List.mem_filter.mpr ⟨kc_tables_1_6 _ (List.mem_of_getElem? (i := 99) rfl), rfl⟩
set_option maxRecDepth 20000 in
theorem kw_1487 : Cond.lays "KettleChoirModel" "KettleChoirModel" "fitMany" "I" ∈ kt_T := List.mem_filter.mpr ⟨kc_tables_1_6 _ (List.mem_of_getElem? (i := 101) rfl), rfl⟩
set_option maxRecDepth 20000 in
theorem kw_1488 : Cond.laysFinal "KettleChoirModel" "KettleChoirModel" "choirs" "[J" ∈ kt_T := List.mem_filter.mpr ⟨kc_tables_1_6 _ (List.mem_of_getElem? (i := 103) rfl), rfl⟩
set_option maxRecDepth 20000 in
theorem kw_1489 : Cond.lays "KettleChoirModel" "KettleChoirModel" "seedNow" "I" ∈ kt_T := List.mem_filter.mpr ⟨kc_tables_1_6 _ (List.mem_of_getElem? (i := 105) rfl), rfl⟩
set_option maxRecDepth 20000 in
theorem kw_1490 : Cond.lays "KettleChoirModel" "KettleChoirModel" "hasImage" "Z" ∈ kt_T := List.mem_filter.mpr ⟨kc_tables_1_6 _ (List.mem_of_getElem? (i := 107) rfl), rfl⟩
set_option maxRecDepth 20000 in
theorem kw_1491 : Cond.lays "KettleChoirModel" "KettleChoirModel" "actsThen" "I" ∈ kt_T := List.mem_filter.mpr ⟨kc_tables_1_6 _ (List.mem_of_getElem? (i := 109) rfl), rfl⟩
set_option maxRecDepth 20000 in
theorem kw_1492 : Cond.lays "KettleChoirModel" "KettleChoirModel" "heardThen" "I" ∈ kt_T := List.mem_filter.mpr ⟨kc_tables_1_6 _ (List.mem_of_getElem? (i := 111) rfl), rfl⟩
set_option maxRecDepth 20000 in
theorem kw_1493 : Cond.laysFinal "KettleChoirModel" "KettleChoirModel" "imageRow" "[I" ∈ kt_T := List.mem_filter.mpr ⟨kc_tables_1_6 _ (List.mem_of_getElem? (i := 113) rfl), rfl⟩
set_option maxRecDepth 20000 in
theorem kw_1494 : Cond.laysFinal "KettleChoirModel" "KettleChoirModel" "pastThen" "[I" ∈ kt_T := List.mem_filter.mpr ⟨kc_tables_1_6 _ (List.mem_of_getElem? (i := 115) rfl), rfl⟩
set_option maxRecDepth 20000 in
theorem kw_1495 : Cond.laysFinal "KettleChoirModel" "KettleChoirModel" "heardInThen" "[I" ∈ kt_T := List.mem_filter.mpr ⟨kc_tables_1_6 _ (List.mem_of_getElem? (i := 117) rfl), rfl⟩
set_option maxRecDepth 20000 in
theorem kw_1496 : Cond.laysFinal "KettleChoirModel" "KettleChoirModel" "heardNoteThen" "[I" ∈ kt_T := List.mem_filter.mpr ⟨kc_tables_1_6 _ (List.mem_of_getElem? (i := 119) rfl), rfl⟩
set_option maxRecDepth 20000 in
theorem kw_1497 : Cond.laysFinal "KettleChoirModel" "KettleChoirModel" "statusThen" "[I" ∈ kt_T := List.mem_filter.mpr ⟨kc_tables_1_6 _ (List.mem_of_getElem? (i := 121) rfl), rfl⟩
set_option maxRecDepth 20000 in
theorem kw_1498 : Cond.instantiable "KettleChoirModel" 58 ∈ kt_T := List.mem_filter.mpr ⟨kc_tables_1_5 _ (List.mem_of_getElem? (i := 171) rfl), rfl⟩
