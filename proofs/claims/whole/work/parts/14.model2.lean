/-! laid by wip/whole: names, words and decode rows from the print of the task; the contracts are told in wip/whole/*.py -/
theorem dX15_thrown_0 : decode cX15_thrown 0 = .ok (.aload_n 0, 1) := by decide +kernel
theorem dX15_thrown_1 : decode cX15_thrown 1 = .ok (.getfield 67, 3) := by decide +kernel
theorem dX15_thrown_4 : decode cX15_thrown 4 = .ok (.ireturn, 1) := by decide +kernel
theorem dX15_fails_0 : decode cX15_fails 0 = .ok (.aload_n 0, 1) := by decide +kernel
theorem dX15_fails_1 : decode cX15_fails 1 = .ok (.iload_n 1, 1) := by decide +kernel
theorem dX15_fails_2 : decode cX15_fails 2 = .ok (.putfield 67, 3) := by decide +kernel
theorem dX15_fails_5 : decode cX15_fails 5 = .ok (.iload_n 1, 1) := by decide +kernel
theorem dX15_fails_6 : decode cX15_fails 6 = .ok (.ifCond .le 7, 3) := by decide +kernel
theorem dX15_fails_9 : decode cX15_fails 9 = .ok (.iconst 1, 1) := by decide +kernel
theorem dX15_fails_10 : decode cX15_fails 10 = .ok (.goto 4, 3) := by decide +kernel
theorem dX15_fails_13 : decode cX15_fails 13 = .ok (.iconst 0, 1) := by decide +kernel
theorem dX15_fails_14 : decode cX15_fails 14 = .ok (.ireturn, 1) := by decide +kernel
theorem dX15_in_0 : decode cX15_in 0 = .ok (.iload_n 0, 1) := by decide +kernel
theorem dX15_in_1 : decode cX15_in 1 = .ok (.iload_n 1, 1) := by decide +kernel
theorem dX15_in_2 : decode cX15_in 2 = .ok (.if_icmp .lt 12, 3) := by decide +kernel
theorem dX15_in_5 : decode cX15_in 5 = .ok (.iload_n 0, 1) := by decide +kernel
theorem dX15_in_6 : decode cX15_in 6 = .ok (.iload_n 2, 1) := by decide +kernel
theorem dX15_in_7 : decode cX15_in 7 = .ok (.if_icmp .gt 7, 3) := by decide +kernel
theorem dX15_in_10 : decode cX15_in 10 = .ok (.iconst 1, 1) := by decide +kernel
theorem dX15_in_11 : decode cX15_in 11 = .ok (.goto 4, 3) := by decide +kernel
theorem dX15_in_14 : decode cX15_in 14 = .ok (.iconst 0, 1) := by decide +kernel
theorem dX15_in_15 : decode cX15_in 15 = .ok (.ireturn, 1) := by decide +kernel
theorem dX15_isFile_0 : decode cX15_isFile 0 = .ok (.iload_n 1, 1) := by decide +kernel
theorem dX15_isFile_1 : decode cX15_isFile 1 = .ok (.iconst 0, 1) := by decide +kernel
theorem dX15_isFile_2 : decode cX15_isFile 2 = .ok (.aload_n 0, 1) := by decide +kernel
theorem dX15_isFile_3 : decode cX15_isFile 3 = .ok (.getfield 22, 3) := by decide +kernel
theorem dX15_isFile_6 : decode cX15_isFile 6 = .ok (.invokevirtual 70, 3) := by decide +kernel
theorem dX15_isFile_9 : decode cX15_isFile 9 = .ok (.iconst 1, 1) := by decide +kernel
theorem dX15_isFile_10 : decode cX15_isFile 10 = .ok (.isub, 1) := by decide +kernel
theorem dX15_isFile_11 : decode cX15_isFile 11 = .ok (.invokestatic 74, 3) := by decide +kernel
theorem dX15_isFile_14 : decode cX15_isFile 14 = .ok (.ireturn, 1) := by decide +kernel
theorem dX15_failsFile_0 : decode cX15_failsFile 0 = .ok (.aload_n 0, 1) := by decide +kernel
theorem dX15_failsFile_1 : decode cX15_failsFile 1 = .ok (.aload_n 0, 1) := by decide +kernel
theorem dX15_failsFile_2 : decode cX15_failsFile 2 = .ok (.iload_n 1, 1) := by decide +kernel
theorem dX15_failsFile_3 : decode cX15_failsFile 3 = .ok (.invokevirtual 78, 3) := by decide +kernel
theorem dX15_failsFile_6 : decode cX15_failsFile 6 = .ok (.ifCond .eq 7, 3) := by decide +kernel
theorem dX15_failsFile_9 : decode cX15_failsFile 9 = .ok (.iconst 0, 1) := by decide +kernel
theorem dX15_failsFile_10 : decode cX15_failsFile 10 = .ok (.goto 4, 3) := by decide +kernel
theorem dX15_failsFile_13 : decode cX15_failsFile 13 = .ok (.iconst 1, 1) := by decide +kernel
theorem dX15_failsFile_14 : decode cX15_failsFile 14 = .ok (.invokevirtual 82, 3) := by decide +kernel
theorem dX15_failsFile_17 : decode cX15_failsFile 17 = .ok (.ireturn, 1) := by decide +kernel
theorem dX15_put_0 : decode cX15_put 0 = .ok (.aload_n 0, 1) := by decide +kernel
theorem dX15_put_1 : decode cX15_put 1 = .ok (.aload_n 0, 1) := by decide +kernel
theorem dX15_put_2 : decode cX15_put 2 = .ok (.getfield 7, 3) := by decide +kernel
theorem dX15_put_5 : decode cX15_put 5 = .ok (.aload_n 1, 1) := by decide +kernel
theorem dX15_put_6 : decode cX15_put 6 = .ok (.invokestatic 85, 3) := by decide +kernel
theorem dX15_put_9 : decode cX15_put 9 = .ok (.putfield 7, 3) := by decide +kernel
theorem dX15_put_12 : decode cX15_put 12 = .ok (.aload_n 0, 1) := by decide +kernel
theorem dX15_put_13 : decode cX15_put 13 = .ok (.getfield 7, 3) := by decide +kernel
theorem dX15_put_16 : decode cX15_put 16 = .ok (.arraylength, 1) := by decide +kernel
theorem dX15_put_17 : decode cX15_put 17 = .ok (.ireturn, 1) := by decide +kernel
theorem dX15_repeat_0 : decode cX15_repeat 0 = .ok (.aload_n 0, 1) := by decide +kernel
theorem dX15_repeat_1 : decode cX15_repeat 1 = .ok (.iload_n 1, 1) := by decide +kernel
theorem dX15_repeat_2 : decode cX15_repeat 2 = .ok (.iconst 0, 1) := by decide +kernel
theorem dX15_repeat_3 : decode cX15_repeat 3 = .ok (.sipush 255, 3) := by decide +kernel
theorem dX15_repeat_6 : decode cX15_repeat 6 = .ok (.invokestatic 74, 3) := by decide +kernel
theorem dX15_repeat_9 : decode cX15_repeat 9 = .ok (.ifCond .eq 14, 3) := by decide +kernel
theorem dX15_repeat_12 : decode cX15_repeat 12 = .ok (.iload_n 2, 1) := by decide +kernel
theorem dX15_repeat_13 : decode cX15_repeat 13 = .ok (.iconst 1, 1) := by decide +kernel
theorem dX15_repeat_14 : decode cX15_repeat 14 = .ok (.sipush 200, 3) := by decide +kernel
theorem dX15_repeat_17 : decode cX15_repeat 17 = .ok (.invokestatic 74, 3) := by decide +kernel
theorem dX15_repeat_20 : decode cX15_repeat 20 = .ok (.ifCond .ne 7, 3) := by decide +kernel
theorem dX15_repeat_23 : decode cX15_repeat 23 = .ok (.iconst 1, 1) := by decide +kernel
theorem dX15_repeat_24 : decode cX15_repeat 24 = .ok (.goto 21, 3) := by decide +kernel
theorem dX15_repeat_27 : decode cX15_repeat 27 = .ok (.aload_n 0, 1) := by decide +kernel
theorem dX15_repeat_28 : decode cX15_repeat 28 = .ok (.getfield 7, 3) := by decide +kernel
theorem dX15_repeat_31 : decode cX15_repeat 31 = .ok (.arraylength, 1) := by decide +kernel
theorem dX15_repeat_32 : decode cX15_repeat 32 = .ok (.iload_n 2, 1) := by decide +kernel
theorem dX15_repeat_33 : decode cX15_repeat 33 = .ok (.iadd, 1) := by decide +kernel
theorem dX15_repeat_34 : decode cX15_repeat 34 = .ok (.sipush 200, 3) := by decide +kernel
theorem dX15_repeat_37 : decode cX15_repeat 37 = .ok (.if_icmp .le 7, 3) := by decide +kernel
theorem dX15_repeat_40 : decode cX15_repeat 40 = .ok (.iconst 2, 1) := by decide +kernel
theorem dX15_repeat_41 : decode cX15_repeat 41 = .ok (.goto 4, 3) := by decide +kernel
theorem dX15_repeat_44 : decode cX15_repeat 44 = .ok (.iconst 0, 1) := by decide +kernel
theorem dX15_repeat_45 : decode cX15_repeat 45 = .ok (.invokevirtual 82, 3) := by decide +kernel
theorem dX15_repeat_48 : decode cX15_repeat 48 = .ok (.ifCond .eq 5, 3) := by decide +kernel
theorem dX15_repeat_51 : decode cX15_repeat 51 = .ok (.iconst 0, 1) := by decide +kernel
theorem dX15_repeat_52 : decode cX15_repeat 52 = .ok (.ireturn, 1) := by decide +kernel
theorem dX15_repeat_53 : decode cX15_repeat 53 = .ok (.iload_n 2, 1) := by decide +kernel
theorem dX15_repeat_54 : decode cX15_repeat 54 = .ok (.newarray .int, 2) := by decide +kernel
theorem dX15_repeat_56 : decode cX15_repeat 56 = .ok (.astore_n 3, 1) := by decide +kernel
theorem dX15_repeat_57 : decode cX15_repeat 57 = .ok (.iconst 0, 1) := by decide +kernel
theorem dX15_repeat_58 : decode cX15_repeat 58 = .ok (.istore 4, 2) := by decide +kernel
theorem dX15_repeat_60 : decode cX15_repeat 60 = .ok (.iload 4, 2) := by decide +kernel
theorem dX15_repeat_62 : decode cX15_repeat 62 = .ok (.iload_n 2, 1) := by decide +kernel
theorem dX15_repeat_63 : decode cX15_repeat 63 = .ok (.if_icmp .ge 14, 3) := by decide +kernel
theorem dX15_repeat_66 : decode cX15_repeat 66 = .ok (.aload_n 3, 1) := by decide +kernel
theorem dX15_repeat_67 : decode cX15_repeat 67 = .ok (.iload 4, 2) := by decide +kernel
theorem dX15_repeat_69 : decode cX15_repeat 69 = .ok (.iload_n 1, 1) := by decide +kernel
theorem dX15_repeat_70 : decode cX15_repeat 70 = .ok (.iastore, 1) := by decide +kernel
theorem dX15_repeat_71 : decode cX15_repeat 71 = .ok (.iinc 4 1, 3) := by decide +kernel
theorem dX15_repeat_74 : decode cX15_repeat 74 = .ok (.goto (-14), 3) := by decide +kernel
theorem dX15_repeat_77 : decode cX15_repeat 77 = .ok (.aload_n 0, 1) := by decide +kernel
theorem dX15_repeat_78 : decode cX15_repeat 78 = .ok (.aload_n 3, 1) := by decide +kernel
theorem dX15_repeat_79 : decode cX15_repeat 79 = .ok (.invokevirtual 89, 3) := by decide +kernel
theorem dX15_repeat_82 : decode cX15_repeat 82 = .ok (.ireturn, 1) := by decide +kernel
theorem dX15_keep_0 : decode cX15_keep 0 = .ok (.aload_n 0, 1) := by decide +kernel
theorem dX15_keep_1 : decode cX15_keep 1 = .ok (.getfield 22, 3) := by decide +kernel
theorem dX15_keep_4 : decode cX15_keep 4 = .ok (.aload_n 1, 1) := by decide +kernel
theorem dX15_keep_5 : decode cX15_keep 5 = .ok (.invokevirtual 105, 3) := by decide +kernel
theorem dX15_keep_8 : decode cX15_keep 8 = .ok (.istore_n 2, 1) := by decide +kernel
theorem dX15_keep_9 : decode cX15_keep 9 = .ok (.aload_n 0, 1) := by decide +kernel
theorem dX15_keep_10 : decode cX15_keep 10 = .ok (.getfield 22, 3) := by decide +kernel
theorem dX15_keep_13 : decode cX15_keep 13 = .ok (.invokevirtual 70, 3) := by decide +kernel
theorem dX15_keep_16 : decode cX15_keep 16 = .ok (.iconst 1, 1) := by decide +kernel
theorem dX15_keep_17 : decode cX15_keep 17 = .ok (.isub, 1) := by decide +kernel
theorem dX15_keep_18 : decode cX15_keep 18 = .ok (.ireturn, 1) := by decide +kernel
theorem dX15_file_0 : decode cX15_file 0 = .ok (.aload_n 0, 1) := by decide +kernel
theorem dX15_file_1 : decode cX15_file 1 = .ok (.aload_n 0, 1) := by decide +kernel
theorem dX15_file_2 : decode cX15_file 2 = .ok (.getfield 22, 3) := by decide +kernel
theorem dX15_file_5 : decode cX15_file 5 = .ok (.invokevirtual 70, 3) := by decide +kernel
theorem dX15_file_8 : decode cX15_file 8 = .ok (.bipush 24, 2) := by decide +kernel
theorem dX15_file_10 : decode cX15_file 10 = .ok (.if_icmp .ne 7, 3) := by decide +kernel
theorem dX15_file_13 : decode cX15_file 13 = .ok (.iconst 1, 1) := by decide +kernel
theorem dX15_file_14 : decode cX15_file 14 = .ok (.goto 4, 3) := by decide +kernel
theorem dX15_file_17 : decode cX15_file 17 = .ok (.iconst 0, 1) := by decide +kernel
theorem dX15_file_18 : decode cX15_file 18 = .ok (.invokevirtual 82, 3) := by decide +kernel
theorem dX15_file_21 : decode cX15_file 21 = .ok (.ifCond .eq 5, 3) := by decide +kernel
theorem dX15_file_24 : decode cX15_file 24 = .ok (.iconst 0, 1) := by decide +kernel
theorem dX15_file_25 : decode cX15_file 25 = .ok (.ireturn, 1) := by decide +kernel
theorem dX15_file_26 : decode cX15_file 26 = .ok (.aload_n 0, 1) := by decide +kernel
theorem dX15_file_27 : decode cX15_file 27 = .ok (.aload_n 0, 1) := by decide +kernel
theorem dX15_file_28 : decode cX15_file 28 = .ok (.getfield 7, 3) := by decide +kernel
theorem dX15_file_31 : decode cX15_file 31 = .ok (.invokevirtual 109, 3) := by decide +kernel
theorem dX15_file_34 : decode cX15_file 34 = .ok (.istore_n 1, 1) := by decide +kernel
theorem dX15_file_35 : decode cX15_file 35 = .ok (.aload_n 0, 1) := by decide +kernel
theorem dX15_file_36 : decode cX15_file 36 = .ok (.iconst 0, 1) := by decide +kernel
theorem dX15_file_37 : decode cX15_file 37 = .ok (.newarray .int, 2) := by decide +kernel
theorem dX15_file_39 : decode cX15_file 39 = .ok (.putfield 7, 3) := by decide +kernel
theorem dX15_file_42 : decode cX15_file 42 = .ok (.iload_n 1, 1) := by decide +kernel
theorem dX15_file_43 : decode cX15_file 43 = .ok (.ireturn, 1) := by decide +kernel
def usX15_thrown : List Cond := .code yX15_thrown cX15_thrown 1 (some .int) :: ([.fieldLink RX15 67 "PatchferryModel" "thrown" "I"] ++ wsX150)
def usX15_fails : List Cond := .code yX15_fails cX15_fails 2 (some .boolean) :: ([.fieldLink RX15 67 "PatchferryModel" "thrown" "I"] ++ wsX150)
def usX15_in : List Cond := .code yX15_in cX15_in 3 (some .boolean) :: ([])
def usX15_isFile : List Cond := .code yX15_isFile cX15_isFile 2 (some .boolean) :: ([.fieldLink RX15 22 "PatchferryModel" "files" "Ljava/util/ArrayList;", .methodLink RX15 70 yJx4a65c_size_8abf5, .instanceMethod yJx4a65c_size_8abf5, .selects RJx4a65c yJx4a65c_size_8abf5 yJx4a65c_size_8abf5, .initialized RJx4a65c, .code yJx4a65c_size_8abf5 cJx4a65c_size_8abf5 1 (some .int), .fieldLink RJx4a65c 48 "java/util/ArrayList" "size" "I", .methodLink RX15 74 yX15_in, .static yX15_in, .initialized RX15, .code yX15_in cX15_in 3 (some .boolean)] ++ wsX150 ++ wsJx4a65c0)
def usX15_failsFile : List Cond := .code yX15_failsFile cX15_failsFile 2 (some .boolean) :: ([.methodLink RX15 78 yX15_isFile, .instanceMethod yX15_isFile, .selects RX15 yX15_isFile yX15_isFile, .initialized RX15, .code yX15_isFile cX15_isFile 2 (some .boolean), .fieldLink RX15 22 "PatchferryModel" "files" "Ljava/util/ArrayList;", .methodLink RX15 70 yJx4a65c_size_8abf5, .instanceMethod yJx4a65c_size_8abf5, .selects RJx4a65c yJx4a65c_size_8abf5 yJx4a65c_size_8abf5, .initialized RJx4a65c, .code yJx4a65c_size_8abf5 cJx4a65c_size_8abf5 1 (some .int), .fieldLink RJx4a65c 48 "java/util/ArrayList" "size" "I", .methodLink RX15 74 yX15_in, .static yX15_in, .code yX15_in cX15_in 3 (some .boolean), .methodLink RX15 82 yX15_fails, .instanceMethod yX15_fails, .selects RX15 yX15_fails yX15_fails, .code yX15_fails cX15_fails 2 (some .boolean), .fieldLink RX15 67 "PatchferryModel" "thrown" "I"] ++ wsX150 ++ wsJx4a65c0)
def usX15_put : List Cond := .code yX15_put cX15_put 2 (some .int) :: ([.fieldLink RX15 7 "PatchferryModel" "buffer" "[I", .methodLink RX15 85 yX15_joined, .static yX15_joined, .initialized RX15, .code yX15_joined cX15_joined 4 (some (.array .int)), .arrayClass .int] ++ wsX150)
def usX15_repeat : List Cond := .code yX15_repeat cX15_repeat 5 (some .int) :: ([.fieldLink RX15 7 "PatchferryModel" "buffer" "[I", .arrayClass .int, .methodLink RX15 74 yX15_in, .static yX15_in, .initialized RX15, .code yX15_in cX15_in 3 (some .boolean), .methodLink RX15 82 yX15_fails, .instanceMethod yX15_fails, .selects RX15 yX15_fails yX15_fails, .code yX15_fails cX15_fails 2 (some .boolean), .fieldLink RX15 67 "PatchferryModel" "thrown" "I", .methodLink RX15 89 yX15_put, .instanceMethod yX15_put, .selects RX15 yX15_put yX15_put, .code yX15_put cX15_put 2 (some .int), .methodLink RX15 85 yX15_joined, .static yX15_joined, .code yX15_joined cX15_joined 4 (some (.array .int))] ++ wsX150)
def usX15_keep_r1 : List Cond := [Cond.fieldLink RX15 22 "PatchferryModel" "files" "Ljava/util/ArrayList;", Cond.methodLink RX15 105 yJx4a65c_add_9ea2d, Cond.instanceMethod yJx4a65c_add_9ea2d, Cond.selects RJx4a65c yJx4a65c_add_9ea2d yJx4a65c_add_9ea2d, Cond.initialized RJx4a65c, Cond.code yJx4a65c_add_9ea2d cJx4a65c_add_9ea2d 2 (some .boolean), Cond.fieldLink RJx4a65c 63 "java/util/ArrayList" "modCount" "I", Cond.sameField "java/util/ArrayList" "java/util/AbstractList" "modCount" "I", Cond.fieldLink RJx4a65c 9 "java/util/ArrayList" "elementData" "[Ljava/lang/Object;", Cond.fieldLink RJx4a65c 48 "java/util/ArrayList" "size" "I", Cond.methodLink RJx4a65c 131 yJx4a65c_add_72be8, Cond.instanceMethod yJx4a65c_add_72be8, Cond.selects RJx4a65c yJx4a65c_add_72be8 yJx4a65c_add_72be8, Cond.code yJx4a65c_add_72be8 cJx4a65c_add_72be8 4 none, Cond.methodLink RJx4a65c 129 yJx4a65c_grow_d5877, Cond.instanceMethod yJx4a65c_grow_d5877, Cond.selects RJx4a65c yJx4a65c_grow_d5877 yJx4a65c_grow_d5877, Cond.code yJx4a65c_grow_d5877 cJx4a65c_grow_d5877 1 (some (.array (.object "java/lang/Object"))), Cond.methodLink RJx4a65c 69 yJx4a65c_grow_92f84, Cond.instanceMethod yJx4a65c_grow_92f84]
def usX15_keep_r2 : List Cond := [Cond.selects RJx4a65c yJx4a65c_grow_92f84 yJx4a65c_grow_92f84, Cond.code yJx4a65c_grow_92f84 cJx4a65c_grow_92f84 4 (some (.array (.object "java/lang/Object"))), Cond.fieldLink RJx4a65c 39 "java/util/ArrayList" "DEFAULTCAPACITY_EMPTY_ELEMENTDATA" "[Ljava/lang/Object;", Cond.methodLink RJx4a65c 79 Lib.Math.max.name, Cond.static Lib.Math.max.name, Cond.initialized "java/lang/Math", Cond.code Lib.Math.max.name Lib.Math.max.code 2 (some .int), Cond.classLink RJx4a65c 7 "java/lang/Object", Cond.methodLink RJx4a65c 73 yJ8_newLength_cabcc, Cond.static yJ8_newLength_cabcc, Cond.initialized RJ8, Cond.code yJ8_newLength_cabcc cJ8_newLength_cabcc 4 (some .int), Cond.methodLink RJ8 194 Lib.Math.max.name, Cond.constant RJ8 200 (2147483639), Cond.methodLink RJ8 201 yJ8_hugeLength_7cf53, Cond.static yJ8_hugeLength_7cf53, Cond.code yJ8_hugeLength_7cf53 cJ8_hugeLength_7cf53 3 (some .int), Cond.methodLink RJx4a65c 66 yJ7_copyOf_1904c, Cond.static yJ7_copyOf_1904c, Cond.initialized RJ7]
def usX15_keep_r3 : List Cond := [Cond.code yJ7_copyOf_1904c cJ7_copyOf_1904c 2 (some (.array (.object "java/lang/Object"))), Cond.methodLink RJ7 86 ⟨"java/lang/Object", "getClass", "()Ljava/lang/Class;"⟩, Cond.selects "[Ljava/lang/Object;" ⟨"java/lang/Object", "getClass", "()Ljava/lang/Class;"⟩ ⟨"java/lang/Object", "getClass", "()Ljava/lang/Class;"⟩, Cond.instanceMethod ⟨"java/lang/Object", "getClass", "()Ljava/lang/Class;"⟩, Cond.native ⟨"java/lang/Object", "getClass", "()Ljava/lang/Class;"⟩, Cond.methodLink RJ7 300 yJ7_copyOf_6403c, Cond.static yJ7_copyOf_6403c, Cond.code yJ7_copyOf_6403c cJ7_copyOf_6403c 4 (some (.array (.object "java/lang/Object"))), Cond.classLink RJ7 110 "[Ljava/lang/Object;", Cond.classLink RJ7 2 "java/lang/Object", Cond.methodLink RJ7 304 Lib.Math.min.name, Cond.static Lib.Math.min.name, Cond.code Lib.Math.min.name Lib.Math.min.code 2 (some .int), Cond.methodLink RJ7 150 arraycopyName, Cond.native arraycopyName, Cond.static arraycopyName, Cond.initialized "java/lang/System", Cond.methodLink RX15 70 yJx4a65c_size_8abf5, Cond.instanceMethod yJx4a65c_size_8abf5, Cond.selects RJx4a65c yJx4a65c_size_8abf5 yJx4a65c_size_8abf5]
def usX15_keep_r4 : List Cond := [Cond.code yJx4a65c_size_8abf5 cJx4a65c_size_8abf5 1 (some .int)]
def usX15_keep : List Cond := .code yX15_keep cX15_keep 3 (some .int) :: ((usX15_keep_r1 ++ (usX15_keep_r2 ++ (usX15_keep_r3 ++ (usX15_keep_r4)))) ++ wsX150 ++ wsJx4a65c0)
def usX15_file_r1 : List Cond := [Cond.fieldLink RX15 22 "PatchferryModel" "files" "Ljava/util/ArrayList;", Cond.fieldLink RX15 7 "PatchferryModel" "buffer" "[I", Cond.arrayClass .int, Cond.methodLink RX15 70 yJx4a65c_size_8abf5, Cond.instanceMethod yJx4a65c_size_8abf5, Cond.selects RJx4a65c yJx4a65c_size_8abf5 yJx4a65c_size_8abf5, Cond.initialized RJx4a65c, Cond.code yJx4a65c_size_8abf5 cJx4a65c_size_8abf5 1 (some .int), Cond.fieldLink RJx4a65c 48 "java/util/ArrayList" "size" "I", Cond.methodLink RX15 82 yX15_fails, Cond.instanceMethod yX15_fails, Cond.selects RX15 yX15_fails yX15_fails, Cond.initialized RX15, Cond.code yX15_fails cX15_fails 2 (some .boolean), Cond.fieldLink RX15 67 "PatchferryModel" "thrown" "I", Cond.methodLink RX15 109 yX15_keep, Cond.instanceMethod yX15_keep, Cond.selects RX15 yX15_keep yX15_keep, Cond.code yX15_keep cX15_keep 3 (some .int), Cond.methodLink RX15 105 yJx4a65c_add_9ea2d]
def usX15_file_r2 : List Cond := [Cond.instanceMethod yJx4a65c_add_9ea2d, Cond.selects RJx4a65c yJx4a65c_add_9ea2d yJx4a65c_add_9ea2d, Cond.code yJx4a65c_add_9ea2d cJx4a65c_add_9ea2d 2 (some .boolean), Cond.fieldLink RJx4a65c 63 "java/util/ArrayList" "modCount" "I", Cond.sameField "java/util/ArrayList" "java/util/AbstractList" "modCount" "I", Cond.fieldLink RJx4a65c 9 "java/util/ArrayList" "elementData" "[Ljava/lang/Object;", Cond.methodLink RJx4a65c 131 yJx4a65c_add_72be8, Cond.instanceMethod yJx4a65c_add_72be8, Cond.selects RJx4a65c yJx4a65c_add_72be8 yJx4a65c_add_72be8, Cond.code yJx4a65c_add_72be8 cJx4a65c_add_72be8 4 none, Cond.methodLink RJx4a65c 129 yJx4a65c_grow_d5877, Cond.instanceMethod yJx4a65c_grow_d5877, Cond.selects RJx4a65c yJx4a65c_grow_d5877 yJx4a65c_grow_d5877, Cond.code yJx4a65c_grow_d5877 cJx4a65c_grow_d5877 1 (some (.array (.object "java/lang/Object"))), Cond.methodLink RJx4a65c 69 yJx4a65c_grow_92f84, Cond.instanceMethod yJx4a65c_grow_92f84, Cond.selects RJx4a65c yJx4a65c_grow_92f84 yJx4a65c_grow_92f84, Cond.code yJx4a65c_grow_92f84 cJx4a65c_grow_92f84 4 (some (.array (.object "java/lang/Object"))), Cond.fieldLink RJx4a65c 39 "java/util/ArrayList" "DEFAULTCAPACITY_EMPTY_ELEMENTDATA" "[Ljava/lang/Object;", Cond.methodLink RJx4a65c 79 Lib.Math.max.name]
def usX15_file_r3 : List Cond := [Cond.static Lib.Math.max.name, Cond.initialized "java/lang/Math", Cond.code Lib.Math.max.name Lib.Math.max.code 2 (some .int), Cond.classLink RJx4a65c 7 "java/lang/Object", Cond.methodLink RJx4a65c 73 yJ8_newLength_cabcc, Cond.static yJ8_newLength_cabcc, Cond.initialized RJ8, Cond.code yJ8_newLength_cabcc cJ8_newLength_cabcc 4 (some .int), Cond.methodLink RJ8 194 Lib.Math.max.name, Cond.constant RJ8 200 (2147483639), Cond.methodLink RJ8 201 yJ8_hugeLength_7cf53, Cond.static yJ8_hugeLength_7cf53, Cond.code yJ8_hugeLength_7cf53 cJ8_hugeLength_7cf53 3 (some .int), Cond.methodLink RJx4a65c 66 yJ7_copyOf_1904c, Cond.static yJ7_copyOf_1904c, Cond.initialized RJ7, Cond.code yJ7_copyOf_1904c cJ7_copyOf_1904c 2 (some (.array (.object "java/lang/Object"))), Cond.methodLink RJ7 86 ⟨"java/lang/Object", "getClass", "()Ljava/lang/Class;"⟩, Cond.selects "[Ljava/lang/Object;" ⟨"java/lang/Object", "getClass", "()Ljava/lang/Class;"⟩ ⟨"java/lang/Object", "getClass", "()Ljava/lang/Class;"⟩, Cond.instanceMethod ⟨"java/lang/Object", "getClass", "()Ljava/lang/Class;"⟩]
def usX15_file_r4 : List Cond := [Cond.native ⟨"java/lang/Object", "getClass", "()Ljava/lang/Class;"⟩, Cond.methodLink RJ7 300 yJ7_copyOf_6403c, Cond.static yJ7_copyOf_6403c, Cond.code yJ7_copyOf_6403c cJ7_copyOf_6403c 4 (some (.array (.object "java/lang/Object"))), Cond.classLink RJ7 110 "[Ljava/lang/Object;", Cond.classLink RJ7 2 "java/lang/Object", Cond.methodLink RJ7 304 Lib.Math.min.name, Cond.static Lib.Math.min.name, Cond.code Lib.Math.min.name Lib.Math.min.code 2 (some .int), Cond.methodLink RJ7 150 arraycopyName, Cond.native arraycopyName, Cond.static arraycopyName, Cond.initialized "java/lang/System"]
def usX15_file : List Cond := .code yX15_file cX15_file 2 (some .int) :: ((usX15_file_r1 ++ (usX15_file_r2 ++ (usX15_file_r3 ++ (usX15_file_r4)))) ++ wsX150 ++ wsJx4a65c0)
theorem inX15_thrown_RX15 : ∀ w ∈ u_ws RX15 TX15 23, w ∈ usX15_thrown := by decide +kernel
theorem inX15_fails_RX15 : ∀ w ∈ u_ws RX15 TX15 23, w ∈ usX15_fails := by decide +kernel
theorem inX15_isFile_RX15 : ∀ w ∈ u_ws RX15 TX15 23, w ∈ usX15_isFile := by decide +kernel
theorem inX15_put_RX15 : ∀ w ∈ u_ws RX15 TX15 23, w ∈ usX15_put := by decide +kernel
theorem inX15_repeat_RX15 : ∀ w ∈ u_ws RX15 TX15 23, w ∈ usX15_repeat := by decide +kernel
theorem inX15_keep_RX15 : ∀ w ∈ u_ws RX15 TX15 23, w ∈ usX15_keep := by decide +kernel
theorem inX15_file_RX15 : ∀ w ∈ u_ws RX15 TX15 23, w ∈ usX15_file := by decide +kernel
set_option maxRecDepth 20000 in
theorem ugX15_isFile_Jx4a65c_size_8abf5 : GoodIn usX15_isFile (wsV RX15 70 RJx4a65c yJx4a65c_size_8abf5 usJx4a65c_size_8abf5) := goodIn_p _ [6] (by decide +kernel) (by decide +kernel)
set_option maxRecDepth 20000 in
theorem ugX15_isFile_X15_in : GoodIn usX15_isFile (va_wsS RX15 74 yX15_in usX15_in) := goodIn_p _ [11] (by decide +kernel) (by decide +kernel)
set_option maxRecDepth 20000 in
theorem ugX15_failsFile_X15_isFile : GoodIn usX15_failsFile (wsV RX15 78 RX15 yX15_isFile usX15_isFile) := goodIn_p _ [5, 11, 15] (by decide +kernel) (by decide +kernel)
set_option maxRecDepth 20000 in
theorem ugX15_failsFile_X15_fails : GoodIn usX15_failsFile (wsV RX15 82 RX15 yX15_fails usX15_fails) := goodIn_p _ [19] (by decide +kernel) (by decide +kernel)
set_option maxRecDepth 20000 in
theorem ugX15_put_X15_joined : GoodIn usX15_put (va_wsS RX15 85 yX15_joined us_joined) := goodIn_p _ [5] (by decide +kernel) (by decide +kernel)
set_option maxRecDepth 20000 in
theorem ugX15_repeat_X15_in : GoodIn usX15_repeat (va_wsS RX15 74 yX15_in usX15_in) := goodIn_p _ [6] (by decide +kernel) (by decide +kernel)
set_option maxRecDepth 20000 in
theorem ugX15_repeat_X15_fails : GoodIn usX15_repeat (wsV RX15 82 RX15 yX15_fails usX15_fails) := goodIn_p _ [10] (by decide +kernel) (by decide +kernel)
set_option maxRecDepth 20000 in
theorem ugX15_repeat_X15_put : GoodIn usX15_repeat (wsV RX15 89 RX15 yX15_put usX15_put) := goodIn_p _ [15, 18] (by decide +kernel) (by decide +kernel)
set_option maxRecDepth 20000 in
theorem ugX15_keep_Jx4a65c_add_9ea2d : GoodIn usX15_keep (wsV RX15 105 RJx4a65c yJx4a65c_add_9ea2d usJx4a65c_add_9ea2d) := goodIn_p _ [6, 14, 18, 22, 27, 32, 37, 41, 48, 53] (by decide +kernel) (by decide +kernel)
set_option maxRecDepth 20000 in
theorem ugX15_keep_Jx4a65c_size_8abf5 : GoodIn usX15_keep (wsV RX15 70 RJx4a65c yJx4a65c_size_8abf5 usJx4a65c_size_8abf5) := goodIn_p _ [61] (by decide +kernel) (by decide +kernel)
set_option maxRecDepth 20000 in
theorem ugX15_file_Jx4a65c_size_8abf5 : GoodIn usX15_file (wsV RX15 70 RJx4a65c yJx4a65c_size_8abf5 usJx4a65c_size_8abf5) := goodIn_p _ [8] (by decide +kernel) (by decide +kernel)
set_option maxRecDepth 20000 in
theorem ugX15_file_X15_fails : GoodIn usX15_file (wsV RX15 82 RX15 yX15_fails usX15_fails) := goodIn_p _ [14] (by decide +kernel) (by decide +kernel)
set_option maxRecDepth 20000 in
theorem ugX15_file_X15_keep : GoodIn usX15_file (wsV RX15 109 RX15 yX15_keep usX15_keep) := goodIn_p _ [19, 23, 30, 34, 38, 43, 48, 53, 57, 64, 69, 8] (by decide +kernel) (by decide +kernel)
set_option maxHeartbeats 4000000 in
set_option maxRecDepth 100000 in
theorem p_thrown (l : Launch) (dC : Nat → ClassId) (dI : Nat → Nat → Nat) (cI cO : ClassId) (mo : Nat) (m2 : Nat) (m3 : Nat) (m4 : Nat) (m5 : Int32) (m6 : Nat) (m7 : Nat) (m8 : Nat) (m9 : Nat) (m10 : Nat) (m11 : Int32) (m13 : Int32) (m14 : Int32) (m15 : Nat) (m16 : Nat) (m17 : Nat) (m18 : Nat) (m19 : Nat) (m20 : Int32) (m21 : Int32) (m22 : Int32) (th : Int32) (b1 : Nat) : Met l yX15_thrown usX15_thrown ({ frames := 0, cells := 0, slots := 0, locals := 0 }) (va_Pc [.ref mo] (fun U => va_P (dC, dI) vwCl [(mo, .inr (22, [.int th, .ref b1, .ref m2, .ref m3, .ref m4, .int m5, .ref m6, .ref m7, .ref m8, .ref m9, .ref m10, .int m11, .null, .int m13, .int m14, .ref m15, .ref m16, .ref m17, .ref m18, .ref m19, .int m20, .int m21, .int m22]))] U.heap ∧ va_K (dC, dI) vwCl (ty0 cI cO) U)) (vp_Si (fun r => r = th)) 0 0 (fun _ => False) := by
  refine Met.ofW (cc := cX15_thrown) (maxL := 1) (ret := (some .int)) (by decide) rfl ?_
  intro p e s m args below meth c s₁ B hml hv
  obtain ⟨rfl, hP, hK⟩ := hv
  have hx := B.exec
  have hb := B.bytes
  have hr := B.returns
  have hts := atoms_spec (ws := usX15_thrown) B.pre
  have hown : s.vm.findClass RX15 = some m.cls := findClass_of_methodNamed B.named
  have hlocks := B.notSynchronized
  have hl := lv_entry ([.ref mo]) (n := 1) (Nat.le_of_ble_eq_true rfl)
  rw [lg_entry_eq]
  generalize (lg_sl ([.ref mo]) ++ List.replicate (1 - (lg_sl ([.ref mo])).length) Slot.unset).toArray = ls at hl ⊢
  have hl : lv_has ls 1 [(0, .ref mo)] := hl
  refine lv_aload_n hx hb dX15_thrown_0 rfl (lv_at hl 0 rfl) ?_
  refine va_get (D := (dC, dI)) (ci := 22) (v := .int th) (C := RX15) (T := TX15) (N := 23) hx hb hts inX15_thrown_RX15 hown hK hP 0 rfl rfl 0 (by decide) (hts (.fieldLink RX15 67 "PatchferryModel" "thrown" "I") (by decide +kernel)) (fun _ h9 => h9) rfl dX15_thrown_1 ?_
  exact W.iret (v := th) hx hb hr (fun t ht hW => ⟨_, rfl, rfl, ht⟩) (fun q hq => by cases hq) dX15_thrown_4
set_option maxHeartbeats 4000000 in
set_option maxRecDepth 100000 in
theorem c_fails (l : Launch) (dC : Nat → ClassId) (dI : Nat → Nat → Nat) (cI cO : ClassId) (sz : Nat) (mo : Nat) (m2 : Nat) (m3 : Nat) (m4 : Nat) (m5 : Int32) (m6 : Nat) (m7 : Nat) (m8 : Nat) (m9 : Nat) (m10 : Nat) (m11 : Int32) (m13 : Int32) (m14 : Int32) (m15 : Nat) (m16 : Nat) (m17 : Nat) (m18 : Nat) (m19 : Nat) (m20 : Int32) (m21 : Int32) (m22 : Int32) (th : Int32) (b1 : Nat) : Met l yX15_fails usX15_fails ({ frames := 0, cells := 0, slots := 0, locals := 0 }) (va_Pc [.ref mo, .int (nI 0)] (fun U => U.heap.size = sz ∧ va_P (dC, dI) vwCl [(mo, .inr (22, [.int th, .ref b1, .ref m2, .ref m3, .ref m4, .int m5, .ref m6, .ref m7, .ref m8, .ref m9, .ref m10, .int m11, .null, .int m13, .int m14, .ref m15, .ref m16, .ref m17, .ref m18, .ref m19, .int m20, .int m21, .int m22]))] U.heap ∧ va_K (dC, dI) vwCl (ty0 cI cO) U ∧ va_D (fun _ => True) [(mo, .inr (22, [.int th, .ref b1, .ref m2, .ref m3, .ref m4, .int m5, .ref m6, .ref m7, .ref m8, .ref m9, .ref m10, .int m11, .null, .int m13, .int m14, .ref m15, .ref m16, .ref m17, .ref m18, .ref m19, .int m20, .int m21, .int m22]))])) (va_Qi (fun (r : Int32) (_ : Unit) => r = nI 0) (fun _ t => va_P (dC, dI) vwCl [(mo, .inr (22, [.int (nI 0), .ref b1, .ref m2, .ref m3, .ref m4, .int m5, .ref m6, .ref m7, .ref m8, .ref m9, .ref m10, .int m11, .null, .int m13, .int m14, .ref m15, .ref m16, .ref m17, .ref m18, .ref m19, .int m20, .int m21, .int m22]))] t.heap ∧ va_K (dC, dI) vwCl (ty0 cI cO) t ∧ va_D (va_A [(mo, .inr (22, [.int th, .ref b1, .ref m2, .ref m3, .ref m4, .int m5, .ref m6, .ref m7, .ref m8, .ref m9, .ref m10, .int m11, .null, .int m13, .int m14, .ref m15, .ref m16, .ref m17, .ref m18, .ref m19, .int m20, .int m21, .int m22]))] sz) [(mo, .inr (22, [.int (nI 0), .ref b1, .ref m2, .ref m3, .ref m4, .int m5, .ref m6, .ref m7, .ref m8, .ref m9, .ref m10, .int m11, .null, .int m13, .int m14, .ref m15, .ref m16, .ref m17, .ref m18, .ref m19, .int m20, .int m21, .int m22]))]) (va_A [(mo, .inr (22, [.int th, .ref b1, .ref m2, .ref m3, .ref m4, .int m5, .ref m6, .ref m7, .ref m8, .ref m9, .ref m10, .int m11, .null, .int m13, .int m14, .ref m15, .ref m16, .ref m17, .ref m18, .ref m19, .int m20, .int m21, .int m22]))] sz)) 0 0 (va_A [(mo, .inr (22, [.int th, .ref b1, .ref m2, .ref m3, .ref m4, .int m5, .ref m6, .ref m7, .ref m8, .ref m9, .ref m10, .int m11, .null, .int m13, .int m14, .ref m15, .ref m16, .ref m17, .ref m18, .ref m19, .int m20, .int m21, .int m22]))] sz) := by
  refine Met.ofW (cc := cX15_fails) (maxL := 2) (ret := (some .boolean)) (by decide) rfl ?_
  intro p e s m args below meth c s₁ B hml hv
  obtain ⟨rfl, hsz, hP, hK, hD0⟩ := hv
  have hx := B.exec
  have hb := B.bytes
  have hr := B.returns
  have hts := atoms_spec (ws := usX15_fails) B.pre
  have hown : s.vm.findClass RX15 = some m.cls := findClass_of_methodNamed B.named
  have hlocks := B.notSynchronized
  subst hsz
  have hD := hD0.self (sz := s.heap.size)
  generalize hAe : va_A [(mo, .inr (22, [.int th, .ref b1, .ref m2, .ref m3, .ref m4, .int m5, .ref m6, .ref m7, .ref m8, .ref m9, .ref m10, .int m11, .null, .int m13, .int m14, .ref m15, .ref m16, .ref m17, .ref m18, .ref m19, .int m20, .int m21, .int m22]))] s.heap.size = A at hD ⊢
  have hA : ∀ q : Nat, s.heap.size ≤ q → A q := fun q h => by rw [← hAe]; exact Or.inr h
  have hS : va_S A s.heap s.heap [] := va_S.rf
  have hl := lv_entry ([.ref mo, .int (nI 0)]) (n := 2) (Nat.le_of_ble_eq_true rfl)
  rw [lg_entry_eq]
  generalize (lg_sl ([.ref mo, .int (nI 0)]) ++ List.replicate (2 - (lg_sl ([.ref mo, .int (nI 0)])).length) Slot.unset).toArray = ls at hl ⊢
  have hl : lv_has ls 2 [(0, .ref mo), (1, .int (nI 0))] := hl
  refine lv_aload_n hx hb dX15_fails_0 rfl (lv_at hl 0 rfl) ?_
  refine lv_iload_n hx hb dX15_fails_1 rfl (lv_at hl 1 rfl) ?_
  refine va_put (D := (dC, dI)) (ci := 22) (v := .int (nI 0)) (ty := .int) (C := RX15) (T := TX15) (N := 23) hx hb hts inX15_fails_RX15 tyX15 tyX15_ok nmX15 hown hK hP hD hS 0 rfl rfl 0 (by decide) (hts (.fieldLink RX15 67 "PatchferryModel" "thrown" "I") (by decide +kernel)) (fun _ h9 => h9) rfl (by decide +kernel) rfl rfl (Nat.le_of_ble_eq_true rfl) dX15_fails_2 (fun H locs hP hD hS => ?_)
  have hP : va_P (dC, dI) vwCl [(mo, .inr (22, [.int (nI 0), .ref b1, .ref m2, .ref m3, .ref m4, .int m5, .ref m6, .ref m7, .ref m8, .ref m9, .ref m10, .int m11, .null, .int m13, .int m14, .ref m15, .ref m16, .ref m17, .ref m18, .ref m19, .int m20, .int m21, .int m22]))] H := hP
  have hD : va_D A [(mo, .inr (22, [.int (nI 0), .ref b1, .ref m2, .ref m3, .ref m4, .int m5, .ref m6, .ref m7, .ref m8, .ref m9, .ref m10, .int m11, .null, .int m13, .int m14, .ref m15, .ref m16, .ref m17, .ref m18, .ref m19, .int m20, .int m21, .int m22]))] := hD
  refine lv_iload_n hx hb dX15_fails_5 rfl (lv_at hl 1 rfl) ?_
  refine lv_if_le (tgt := 13) hx hb dX15_fails_6 (by decide) (fun hb1 => ?_) (fun hb1 => absurd (by decide) hb1)
  refine lv_iconst (v := nI 0) hx hb dX15_fails_13 (by decide) ?_
  have hPe : va_P (dC, dI) vwCl [(mo, .inr (22, [.int (nI 0), .ref b1, .ref m2, .ref m3, .ref m4, .int m5, .ref m6, .ref m7, .ref m8, .ref m9, .ref m10, .int m11, .null, .int m13, .int m14, .ref m15, .ref m16, .ref m17, .ref m18, .ref m19, .int m20, .int m21, .int m22]))] _ := hP.sub [0] rfl
  have hDe : va_D A [(mo, .inr (22, [.int (nI 0), .ref b1, .ref m2, .ref m3, .ref m4, .int m5, .ref m6, .ref m7, .ref m8, .ref m9, .ref m10, .int m11, .null, .int m13, .int m14, .ref m15, .ref m16, .ref m17, .ref m18, .ref m19, .int m20, .int m21, .int m22]))] := hD.sub [0] (by decide) rfl
  refine W.widen (k := 0) (n := 0) (by first | exact Nat.le_of_ble_eq_true rfl | omega | (dsimp only [headSpec]; omega) | (simp only [headSpec]; omega) | omega) (by first | exact Nat.le_of_ble_eq_true rfl | omega | (dsimp only [headSpec]; omega) | (simp only [headSpec]; omega) | omega) ?_
  exact W.zret (v := nI 0) hx hb hr rfl (fun t ht hW => ⟨⟨_, (), rfl, rfl, by rw [ht]; exact hPe, va_K.moved hW.alike hK, hDe⟩, hS.F ht⟩) hS.2.2 dX15_fails_14
set_option maxHeartbeats 4000000 in
set_option maxRecDepth 100000 in
theorem p_in (l : Launch) (dC : Nat → ClassId) (dI : Nat → Nat → Nat) (cI cO : ClassId) (a : Nat) (b : Nat) (d : Nat) (h1 : b ≤ a) (h2 : a ≤ d) (h3 : d < 2 ^ 31) : Met l yX15_in usX15_in ({ frames := 0, cells := 0, slots := 0, locals := 0 }) (va_Pc [.int (nI a), .int (nI b), .int (nI d)] (fun U => va_P (dC, dI) vwCl [] U.heap ∧ va_K (dC, dI) vwCl (ty0 cI cO) U)) (vp_Si (fun r => r = nI 1)) 0 0 (fun _ => False) := by
  refine Met.ofW (cc := cX15_in) (maxL := 3) (ret := (some .boolean)) (by decide) rfl ?_
  intro p e s m args below meth c s₁ B hml hv
  obtain ⟨rfl, hP, hK⟩ := hv
  have hx := B.exec
  have hb := B.bytes
  have hr := B.returns
  have hts := atoms_spec (ws := usX15_in) B.pre
  have hown : s.vm.findClass RX15 = some m.cls := findClass_of_methodNamed B.named
  have hlocks := B.notSynchronized
  have hl := lv_entry ([.int (nI a), .int (nI b), .int (nI d)]) (n := 3) (Nat.le_of_ble_eq_true rfl)
  rw [lg_entry_eq]
  generalize (lg_sl ([.int (nI a), .int (nI b), .int (nI d)]) ++ List.replicate (3 - (lg_sl ([.int (nI a), .int (nI b), .int (nI d)])).length) Slot.unset).toArray = ls at hl ⊢
  have hl : lv_has ls 3 [(0, .int (nI a)), (1, .int (nI b)), (2, .int (nI d))] := hl
  refine lv_iload_n hx hb dX15_in_0 rfl (lv_at hl 0 rfl) ?_
  refine lv_iload_n hx hb dX15_in_1 rfl (lv_at hl 1 rfl) ?_
  refine lv_icmp_lt (tgt := 14) hx hb dX15_in_2 (by decide) (fun hb1 => absurd hb1 (nI_nlt h1 (by omega))) (fun hb1 => ?_)
  refine lv_iload_n hx hb dX15_in_5 rfl (lv_at hl 0 rfl) ?_
  refine lv_iload_n hx hb dX15_in_6 rfl (lv_at hl 2 rfl) ?_
  refine lv_icmp_gt (tgt := 14) hx hb dX15_in_7 (by decide) (fun hb2 => absurd hb2 (nI_nlt h2 h3)) (fun hb2 => ?_)
  refine lv_iconst (v := nI 1) hx hb dX15_in_10 (by decide) ?_
  refine lv_goto (tgt := 15) hx hb dX15_in_11 (by decide) ?_
  exact W.zret (v := nI 1) hx hb hr rfl (fun t ht hW => ⟨_, rfl, rfl, ht⟩) (fun q hq => by cases hq) dX15_in_15
set_option maxHeartbeats 4000000 in
set_option maxRecDepth 100000 in
theorem p_isFile (l : Launch) (dC : Nat → ClassId) (dI : Nat → Nat → Nat) (cI cO : ClassId) (mo : Nat) (m2 : Nat) (m3 : Nat) (m4 : Nat) (m5 : Int32) (m6 : Nat) (m7 : Nat) (m8 : Nat) (m9 : Nat) (m10 : Nat) (m11 : Int32) (m13 : Int32) (m14 : Int32) (m15 : Nat) (m16 : Nat) (m17 : Nat) (m18 : Nat) (m19 : Nat) (m20 : Int32) (m21 : Int32) (m22 : Int32) (th : Int32) (b1 : Nat) (mc : Int32) (ed : Nat) : Met l yX15_isFile usX15_isFile ({ frames := 1, cells := 0, slots := 0, locals := 22 }) (va_Pc [.ref mo, .int (nI 0)] (fun U => va_P (dC, dI) vwCl [(mo, .inr (22, [.int th, .ref b1, .ref m2, .ref m3, .ref m4, .int m5, .ref m6, .ref m7, .ref m8, .ref m9, .ref m10, .int m11, .null, .int m13, .int m14, .ref m15, .ref m16, .ref m17, .ref m18, .ref m19, .int m20, .int m21, .int m22])), (m3, .inr (6, [.int mc, .ref ed, .int (nI 1)]))] U.heap ∧ va_K (dC, dI) vwCl (ty0 cI cO) U)) (vp_Si (fun r => r = nI 1)) 0 0 (fun _ => False) := by
  refine Met.ofW (cc := cX15_isFile) (maxL := 2) (ret := (some .boolean)) (by decide) rfl ?_
  intro p e s m args below meth c s₁ B hml hv
  obtain ⟨rfl, hP, hK⟩ := hv
  have hx := B.exec
  have hb := B.bytes
  have hr := B.returns
  have hts := atoms_spec (ws := usX15_isFile) B.pre
  have hown : s.vm.findClass RX15 = some m.cls := findClass_of_methodNamed B.named
  have hlocks := B.notSynchronized
  have hl := lv_entry ([.ref mo, .int (nI 0)]) (n := 2) (Nat.le_of_ble_eq_true rfl)
  rw [lg_entry_eq]
  generalize (lg_sl ([.ref mo, .int (nI 0)]) ++ List.replicate (2 - (lg_sl ([.ref mo, .int (nI 0)])).length) Slot.unset).toArray = ls at hl ⊢
  have hl : lv_has ls 2 [(0, .ref mo), (1, .int (nI 0))] := hl
  refine lv_iload_n hx hb dX15_isFile_0 rfl (lv_at hl 1 rfl) ?_
  refine lv_iconst (v := nI 0) hx hb dX15_isFile_1 (by decide) ?_
  refine lv_aload_n hx hb dX15_isFile_2 rfl (lv_at hl 0 rfl) ?_
  refine va_get (D := (dC, dI)) (ci := 22) (v := .ref m3) (C := RX15) (T := TX15) (N := 23) hx hb hts inX15_isFile_RX15 hown hK hP 0 rfl rfl 3 (by decide) (hts (.fieldLink RX15 22 "PatchferryModel" "files" "Ljava/util/ArrayList;") (by decide +kernel)) (fun _ h9 => h9) rfl dX15_isFile_3 ?_
  have hPc : va_P (dC, dI) vwCl [(m3, .inr (6, [.int mc, .ref ed, .int (nI 1)]))] _ := hP.sub [1] rfl
  refine uc_i (va_runV (As := []) (rest := [.int (nI 0), .int (nI 0)]) ⟨hx, hb, hml, hown, hts⟩ (p_alsize l dC dI cI cO m3 mc ed 1) (cwV 0 hts ugX15_isFile_Jx4a65c_size_8abf5 rfl rfl rfl (by decide +kernel) ⟨(by first | exact Nat.le_of_ble_eq_true rfl | omega | (dsimp only [headSpec]; omega) | (simp only [headSpec]; omega) | omega), (by first | exact Nat.le_of_ble_eq_true rfl | omega | (dsimp only [headSpec]; omega) | (simp only [headSpec]; omega) | omega)⟩) ⟨fun a U g mk q => by obtain ⟨q0, qP, qK⟩ := q; exact ⟨q0, qP, va_K.moved (u := U) (U := U.calling g mk a) (Vm.Alike.refl U.vm) qK⟩, va_recv hK hP (ci := 6) (q0 := 1) rfl rfl, fun U hU hW => ⟨rfl, by rw [hU]; exact hPc, va_K.moved hW.alike hK⟩⟩ rfl rfl hl.1 rfl (lv_room (Nat.le_of_ble_eq_true rfl)) dX15_isFile_6 ⟨(by first | exact Nat.le_of_ble_eq_true rfl | omega | (dsimp only [headSpec]; omega) | (simp only [headSpec]; omega) | omega), (by first | exact Nat.le_of_ble_eq_true rfl | omega | (dsimp only [headSpec]; omega) | (simp only [headSpec]; omega) | omega)⟩) (fun r1 er1 => ?_)
  subst er1
  refine lv_iconst (v := nI 1) hx hb dX15_isFile_9 (by decide) ?_
  refine lv_isub hx hb dX15_isFile_10 ?_
  refine lv_topi (fun y_1 ey_1 => ?_)
  have h_2 : y_1 = nI 0 := ey_1.trans (pk_sub (by omega))
  subst h_2
  have hPc : va_P (dC, dI) vwCl [] _ := hP.sub [] rfl
  refine uc_i (va_runS (As := [.int (nI 0), .int (nI 0), .int (nI 0)]) (rest := []) ⟨hx, hb, hml, hown, hts⟩ (p_in l dC dI cI cO 0 0 0 (by omega) (by omega) (by omega)) (va_cwS 3 hts ugX15_isFile_X15_in rfl rfl rfl (by decide +kernel) ⟨(by first | exact Nat.le_of_ble_eq_true rfl | omega | (dsimp only [headSpec]; omega) | (simp only [headSpec]; omega) | omega), (by first | exact Nat.le_of_ble_eq_true rfl | omega | (dsimp only [headSpec]; omega) | (simp only [headSpec]; omega) | omega)⟩) ⟨fun a U g mk q => by obtain ⟨q0, qP, qK⟩ := q; exact ⟨q0, qP, va_K.moved (u := U) (U := U.calling g mk a) (Vm.Alike.refl U.vm) qK⟩, fun U hU hW => ⟨rfl, by rw [hU]; exact hPc, va_K.moved hW.alike hK⟩⟩ rfl rfl hl.1 rfl (lv_room (Nat.le_of_ble_eq_true rfl)) dX15_isFile_11 ⟨(by first | exact Nat.le_of_ble_eq_true rfl | omega | (dsimp only [headSpec]; omega) | (simp only [headSpec]; omega) | omega), (by first | exact Nat.le_of_ble_eq_true rfl | omega | (dsimp only [headSpec]; omega) | (simp only [headSpec]; omega) | omega)⟩) (fun r2 er2 => ?_)
  subst er2
  exact W.zret (v := nI 1) hx hb hr rfl (fun t ht hW => ⟨_, rfl, rfl, ht⟩) (fun q hq => by cases hq) dX15_isFile_14
set_option maxHeartbeats 4000000 in
set_option maxRecDepth 100000 in
theorem c_failsFile (l : Launch) (dC : Nat → ClassId) (dI : Nat → Nat → Nat) (cI cO : ClassId) (sz : Nat) (mo : Nat) (m2 : Nat) (m3 : Nat) (m4 : Nat) (m5 : Int32) (m6 : Nat) (m7 : Nat) (m8 : Nat) (m9 : Nat) (m10 : Nat) (m11 : Int32) (m13 : Int32) (m14 : Int32) (m15 : Nat) (m16 : Nat) (m17 : Nat) (m18 : Nat) (m19 : Nat) (m20 : Int32) (m21 : Int32) (m22 : Int32) (th : Int32) (b1 : Nat) (mc : Int32) (ed : Nat) : Met l yX15_failsFile usX15_failsFile ({ frames := 2, cells := 0, slots := 0, locals := 43 }) (va_Pc [.ref mo, .int (nI 0)] (fun U => U.heap.size = sz ∧ va_P (dC, dI) vwCl [(mo, .inr (22, [.int th, .ref b1, .ref m2, .ref m3, .ref m4, .int m5, .ref m6, .ref m7, .ref m8, .ref m9, .ref m10, .int m11, .null, .int m13, .int m14, .ref m15, .ref m16, .ref m17, .ref m18, .ref m19, .int m20, .int m21, .int m22])), (m3, .inr (6, [.int mc, .ref ed, .int (nI 1)]))] U.heap ∧ va_K (dC, dI) vwCl (ty0 cI cO) U ∧ va_D (fun _ => True) [(mo, .inr (22, [.int th, .ref b1, .ref m2, .ref m3, .ref m4, .int m5, .ref m6, .ref m7, .ref m8, .ref m9, .ref m10, .int m11, .null, .int m13, .int m14, .ref m15, .ref m16, .ref m17, .ref m18, .ref m19, .int m20, .int m21, .int m22])), (m3, .inr (6, [.int mc, .ref ed, .int (nI 1)]))])) (va_Qi (fun (r : Int32) (_ : Unit) => r = nI 0) (fun _ t => va_P (dC, dI) vwCl [(mo, .inr (22, [.int (nI 0), .ref b1, .ref m2, .ref m3, .ref m4, .int m5, .ref m6, .ref m7, .ref m8, .ref m9, .ref m10, .int m11, .null, .int m13, .int m14, .ref m15, .ref m16, .ref m17, .ref m18, .ref m19, .int m20, .int m21, .int m22])), (m3, .inr (6, [.int mc, .ref ed, .int (nI 1)]))] t.heap ∧ va_K (dC, dI) vwCl (ty0 cI cO) t ∧ va_D (va_A [(mo, .inr (22, [.int th, .ref b1, .ref m2, .ref m3, .ref m4, .int m5, .ref m6, .ref m7, .ref m8, .ref m9, .ref m10, .int m11, .null, .int m13, .int m14, .ref m15, .ref m16, .ref m17, .ref m18, .ref m19, .int m20, .int m21, .int m22])), (m3, .inr (6, [.int mc, .ref ed, .int (nI 1)]))] sz) [(mo, .inr (22, [.int (nI 0), .ref b1, .ref m2, .ref m3, .ref m4, .int m5, .ref m6, .ref m7, .ref m8, .ref m9, .ref m10, .int m11, .null, .int m13, .int m14, .ref m15, .ref m16, .ref m17, .ref m18, .ref m19, .int m20, .int m21, .int m22])), (m3, .inr (6, [.int mc, .ref ed, .int (nI 1)]))]) (va_A [(mo, .inr (22, [.int th, .ref b1, .ref m2, .ref m3, .ref m4, .int m5, .ref m6, .ref m7, .ref m8, .ref m9, .ref m10, .int m11, .null, .int m13, .int m14, .ref m15, .ref m16, .ref m17, .ref m18, .ref m19, .int m20, .int m21, .int m22])), (m3, .inr (6, [.int mc, .ref ed, .int (nI 1)]))] sz)) 0 0 (va_A [(mo, .inr (22, [.int th, .ref b1, .ref m2, .ref m3, .ref m4, .int m5, .ref m6, .ref m7, .ref m8, .ref m9, .ref m10, .int m11, .null, .int m13, .int m14, .ref m15, .ref m16, .ref m17, .ref m18, .ref m19, .int m20, .int m21, .int m22])), (m3, .inr (6, [.int mc, .ref ed, .int (nI 1)]))] sz) := by
  refine Met.ofW (cc := cX15_failsFile) (maxL := 2) (ret := (some .boolean)) (by decide) rfl ?_
  intro p e s m args below meth c s₁ B hml hv
  obtain ⟨rfl, hsz, hP, hK, hD0⟩ := hv
  have hx := B.exec
  have hb := B.bytes
  have hr := B.returns
  have hts := atoms_spec (ws := usX15_failsFile) B.pre
  have hown : s.vm.findClass RX15 = some m.cls := findClass_of_methodNamed B.named
  have hlocks := B.notSynchronized
  subst hsz
  have hD := hD0.self (sz := s.heap.size)
  generalize hAe : va_A [(mo, .inr (22, [.int th, .ref b1, .ref m2, .ref m3, .ref m4, .int m5, .ref m6, .ref m7, .ref m8, .ref m9, .ref m10, .int m11, .null, .int m13, .int m14, .ref m15, .ref m16, .ref m17, .ref m18, .ref m19, .int m20, .int m21, .int m22])), (m3, .inr (6, [.int mc, .ref ed, .int (nI 1)]))] s.heap.size = A at hD ⊢
  have hA : ∀ q : Nat, s.heap.size ≤ q → A q := fun q h => by rw [← hAe]; exact Or.inr h
  have hS : va_S A s.heap s.heap [] := va_S.rf
  have hl := lv_entry ([.ref mo, .int (nI 0)]) (n := 2) (Nat.le_of_ble_eq_true rfl)
  rw [lg_entry_eq]
  generalize (lg_sl ([.ref mo, .int (nI 0)]) ++ List.replicate (2 - (lg_sl ([.ref mo, .int (nI 0)])).length) Slot.unset).toArray = ls at hl ⊢
  have hl : lv_has ls 2 [(0, .ref mo), (1, .int (nI 0))] := hl
  refine lv_aload_n hx hb dX15_failsFile_0 rfl (lv_at hl 0 rfl) ?_
  refine lv_aload_n hx hb dX15_failsFile_1 rfl (lv_at hl 0 rfl) ?_
  refine lv_iload_n hx hb dX15_failsFile_2 rfl (lv_at hl 1 rfl) ?_
  have hPc : va_P (dC, dI) vwCl [(mo, .inr (22, [.int th, .ref b1, .ref m2, .ref m3, .ref m4, .int m5, .ref m6, .ref m7, .ref m8, .ref m9, .ref m10, .int m11, .null, .int m13, .int m14, .ref m15, .ref m16, .ref m17, .ref m18, .ref m19, .int m20, .int m21, .int m22])), (m3, .inr (6, [.int mc, .ref ed, .int (nI 1)]))] _ := hP.sub [0, 1] rfl
  refine uc_i (va_runV (As := [.int (nI 0)]) (rest := [.ref mo]) ⟨hx, hb, hml, hown, hts⟩ (p_isFile l dC dI cI cO mo m2 m3 m4 m5 m6 m7 m8 m9 m10 m11 m13 m14 m15 m16 m17 m18 m19 m20 m21 m22 th b1 mc ed) (cwV 1 hts ugX15_failsFile_X15_isFile rfl rfl rfl (by decide +kernel) ⟨(by first | exact Nat.le_of_ble_eq_true rfl | omega | (dsimp only [headSpec]; omega) | (simp only [headSpec]; omega) | omega), (by first | exact Nat.le_of_ble_eq_true rfl | omega | (dsimp only [headSpec]; omega) | (simp only [headSpec]; omega) | omega)⟩) ⟨fun a U g mk q => by obtain ⟨q0, qP, qK⟩ := q; exact ⟨q0, qP, va_K.moved (u := U) (U := U.calling g mk a) (Vm.Alike.refl U.vm) qK⟩, va_recv hK hP (ci := 22) (q0 := 0) rfl rfl, fun U hU hW => ⟨rfl, by rw [hU]; exact hPc, va_K.moved hW.alike hK⟩⟩ rfl rfl hl.1 rfl (lv_room (Nat.le_of_ble_eq_true rfl)) dX15_failsFile_3 ⟨(by first | exact Nat.le_of_ble_eq_true rfl | omega | (dsimp only [headSpec]; omega) | (simp only [headSpec]; omega) | omega), (by first | exact Nat.le_of_ble_eq_true rfl | omega | (dsimp only [headSpec]; omega) | (simp only [headSpec]; omega) | omega)⟩) (fun r1 er1 => ?_)
  subst er1
  refine lv_if_eq (tgt := 13) hx hb dX15_failsFile_6 (by decide) (fun hb1 => absurd hb1 (by decide)) (fun hb1 => ?_)
  refine lv_iconst (v := nI 0) hx hb dX15_failsFile_9 (by decide) ?_
  refine lv_goto (tgt := 14) hx hb dX15_failsFile_10 (by decide) ?_
  have hPc : va_P (dC, dI) vwCl [(mo, .inr (22, [.int th, .ref b1, .ref m2, .ref m3, .ref m4, .int m5, .ref m6, .ref m7, .ref m8, .ref m9, .ref m10, .int m11, .null, .int m13, .int m14, .ref m15, .ref m16, .ref m17, .ref m18, .ref m19, .int m20, .int m21, .int m22]))] _ := hP.sub [0] rfl
  have hDc : va_D _ [(mo, .inr (22, [.int th, .ref b1, .ref m2, .ref m3, .ref m4, .int m5, .ref m6, .ref m7, .ref m8, .ref m9, .ref m10, .int m11, .null, .int m13, .int m14, .ref m15, .ref m16, .ref m17, .ref m18, .ref m19, .int m20, .int m21, .int m22]))] := hD.sub [0] (by decide) rfl
  have hFc := va_free (wc := [(mo, .inr (22, [.int th, .ref b1, .ref m2, .ref m3, .ref m4, .int m5, .ref m6, .ref m7, .ref m8, .ref m9, .ref m10, .int m11, .null, .int m13, .int m14, .ref m15, .ref m16, .ref m17, .ref m18, .ref m19, .int m20, .int m21, .int m22]))]) hD hS hA [0] rfl
  refine va_calli (va_runV (As := [.int (nI 0)]) (rest := []) ⟨hx, hb, hml, hown, hts⟩ (c_fails l dC dI cI cO s.heap.size mo m2 m3 m4 m5 m6 m7 m8 m9 m10 m11 m13 m14 m15 m16 m17 m18 m19 m20 m21 m22 th b1) (cwV 1 hts ugX15_failsFile_X15_fails rfl rfl rfl (by decide +kernel) ⟨(by first | exact Nat.le_of_ble_eq_true rfl | omega | (dsimp only [headSpec]; omega) | (simp only [headSpec]; omega) | omega), (by first | exact Nat.le_of_ble_eq_true rfl | omega | (dsimp only [headSpec]; omega) | (simp only [headSpec]; omega) | omega)⟩) ⟨fun a U g mk q => by obtain ⟨q0, q1, qP, qK, qD⟩ := q; exact ⟨q0, q1, qP, va_K.moved (u := U) (U := U.calling g mk a) (Vm.Alike.refl U.vm) qK, qD⟩, va_recv hK hP (ci := 22) (q0 := 0) rfl rfl, fun U hU hW => ⟨rfl, by rw [hU], by rw [hU]; exact hPc, va_K.moved hW.alike hK, hDc.weaken (fun _ _ _ _ => trivial)⟩⟩ rfl rfl hl.1 rfl (lv_room (Nat.le_of_ble_eq_true rfl)) dX15_failsFile_14 ⟨(by first | exact Nat.le_of_ble_eq_true rfl | omega | (dsimp only [headSpec]; omega) | (simp only [headSpec]; omega) | omega), (by first | exact Nat.le_of_ble_eq_true rfl | omega | (dsimp only [headSpec]; omega) | (simp only [headSpec]; omega) | omega)⟩) hS (fun q _ h => hFc q h) hFc (fun r2 u t H locs ht hvm hw hB hz1 hk1 hS => ?_)
  obtain ⟨hP1, hK1, hD1⟩ := hB
  rw [ht] at hP1
  obtain ⟨hP, hD⟩ := va_join (wr := [(m3, .inr (6, [.int mc, .ref ed, .int (nI 1)]))]) (w1 := [(mo, .inr (22, [.int (nI 0), .ref b1, .ref m2, .ref m3, .ref m4, .int m5, .ref m6, .ref m7, .ref m8, .ref m9, .ref m10, .int m11, .null, .int m13, .int m14, .ref m15, .ref m16, .ref m17, .ref m18, .ref m19, .int m20, .int m21, .int m22]))]) hP hD [0] [1] rfl rfl (by decide) (by decide) hk1 hFc hP1 hD1
  have hP : va_P (dC, dI) vwCl [(m3, .inr (6, [.int mc, .ref ed, .int (nI 1)])), (mo, .inr (22, [.int (nI 0), .ref b1, .ref m2, .ref m3, .ref m4, .int m5, .ref m6, .ref m7, .ref m8, .ref m9, .ref m10, .int m11, .null, .int m13, .int m14, .ref m15, .ref m16, .ref m17, .ref m18, .ref m19, .int m20, .int m21, .int m22]))] H := hP
  have hD : va_D A [(m3, .inr (6, [.int mc, .ref ed, .int (nI 1)])), (mo, .inr (22, [.int (nI 0), .ref b1, .ref m2, .ref m3, .ref m4, .int m5, .ref m6, .ref m7, .ref m8, .ref m9, .ref m10, .int m11, .null, .int m13, .int m14, .ref m15, .ref m16, .ref m17, .ref m18, .ref m19, .int m20, .int m21, .int m22]))] := hD
  subst hw
  have hPe : va_P (dC, dI) vwCl [(mo, .inr (22, [.int (nI 0), .ref b1, .ref m2, .ref m3, .ref m4, .int m5, .ref m6, .ref m7, .ref m8, .ref m9, .ref m10, .int m11, .null, .int m13, .int m14, .ref m15, .ref m16, .ref m17, .ref m18, .ref m19, .int m20, .int m21, .int m22])), (m3, .inr (6, [.int mc, .ref ed, .int (nI 1)]))] _ := hP.sub [1, 0] rfl
  have hDe : va_D A [(mo, .inr (22, [.int (nI 0), .ref b1, .ref m2, .ref m3, .ref m4, .int m5, .ref m6, .ref m7, .ref m8, .ref m9, .ref m10, .int m11, .null, .int m13, .int m14, .ref m15, .ref m16, .ref m17, .ref m18, .ref m19, .int m20, .int m21, .int m22])), (m3, .inr (6, [.int mc, .ref ed, .int (nI 1)]))] := hD.sub [1, 0] (by decide) rfl
  refine W.widen (k := 0) (n := 0) (by first | exact Nat.le_of_ble_eq_true rfl | omega | (dsimp only [headSpec]; omega) | (simp only [headSpec]; omega) | omega) (by first | exact Nat.le_of_ble_eq_true rfl | omega | (dsimp only [headSpec]; omega) | (simp only [headSpec]; omega) | omega) ?_
  exact W.zret (v := nI 0) hx hb hr rfl (fun t ht hW => ⟨⟨_, (), rfl, rfl, by rw [ht]; exact hPe, va_K.moved hW.alike hK, hDe⟩, hS.F ht⟩) hS.2.2 dX15_failsFile_17
set_option maxHeartbeats 4000000 in
set_option maxRecDepth 100000 in
theorem c_put (l : Launch) (dC : Nat → ClassId) (dI : Nat → Nat → Nat) (cI cO : ClassId) (sz : Nat) (mo : Nat) (m2 : Nat) (m3 : Nat) (m4 : Nat) (m5 : Int32) (m6 : Nat) (m7 : Nat) (m8 : Nat) (m9 : Nat) (m10 : Nat) (m11 : Int32) (m13 : Int32) (m14 : Int32) (m15 : Nat) (m16 : Nat) (m17 : Nat) (m18 : Nat) (m19 : Nat) (m20 : Int32) (m21 : Int32) (m22 : Int32) (th : Int32) (b1 : Nat) (bf : Nat → Int32) (b2 : Nat) (bg : Nat → Int32) (hbg : ∀ j, j < 199 → bg j = nI 255) : Met l yX15_put usX15_put ({ frames := 1, cells := 1, slots := 199, locals := 23 }) (va_Pc [.ref mo, .ref b2] (fun U => U.heap.size = sz ∧ va_P (dC, dI) vwCl [(mo, .inr (22, [.int th, .ref b1, .ref m2, .ref m3, .ref m4, .int m5, .ref m6, .ref m7, .ref m8, .ref m9, .ref m10, .int m11, .null, .int m13, .int m14, .ref m15, .ref m16, .ref m17, .ref m18, .ref m19, .int m20, .int m21, .int m22])), wa b1 cI 0 bf, wa b2 cI 199 bg] U.heap ∧ va_K (dC, dI) vwCl (ty0 cI cO) U ∧ va_D (fun _ => True) [(mo, .inr (22, [.int th, .ref b1, .ref m2, .ref m3, .ref m4, .int m5, .ref m6, .ref m7, .ref m8, .ref m9, .ref m10, .int m11, .null, .int m13, .int m14, .ref m15, .ref m16, .ref m17, .ref m18, .ref m19, .int m20, .int m21, .int m22])), wa b1 cI 0 bf, wa b2 cI 199 bg])) (va_Qi (fun (r : Int32) (_ : Unit) => True) (fun _ t => ∃ (b3 : Nat), ∃ (bh : Nat → Int32), (∀ j, j < 199 → bh j = nI 255) ∧ va_P (dC, dI) vwCl [(mo, .inr (22, [.int th, .ref b3, .ref m2, .ref m3, .ref m4, .int m5, .ref m6, .ref m7, .ref m8, .ref m9, .ref m10, .int m11, .null, .int m13, .int m14, .ref m15, .ref m16, .ref m17, .ref m18, .ref m19, .int m20, .int m21, .int m22])), wa b3 cI 199 bh] t.heap ∧ va_K (dC, dI) vwCl (ty0 cI cO) t ∧ va_D (va_A [(mo, .inr (22, [.int th, .ref b1, .ref m2, .ref m3, .ref m4, .int m5, .ref m6, .ref m7, .ref m8, .ref m9, .ref m10, .int m11, .null, .int m13, .int m14, .ref m15, .ref m16, .ref m17, .ref m18, .ref m19, .int m20, .int m21, .int m22])), wa b1 cI 0 bf, wa b2 cI 199 bg] sz) [(mo, .inr (22, [.int th, .ref b3, .ref m2, .ref m3, .ref m4, .int m5, .ref m6, .ref m7, .ref m8, .ref m9, .ref m10, .int m11, .null, .int m13, .int m14, .ref m15, .ref m16, .ref m17, .ref m18, .ref m19, .int m20, .int m21, .int m22])), wa b3 cI 199 bh]) (va_A [(mo, .inr (22, [.int th, .ref b1, .ref m2, .ref m3, .ref m4, .int m5, .ref m6, .ref m7, .ref m8, .ref m9, .ref m10, .int m11, .null, .int m13, .int m14, .ref m15, .ref m16, .ref m17, .ref m18, .ref m19, .int m20, .int m21, .int m22])), wa b1 cI 0 bf, wa b2 cI 199 bg] sz)) 1 199 (va_A [(mo, .inr (22, [.int th, .ref b1, .ref m2, .ref m3, .ref m4, .int m5, .ref m6, .ref m7, .ref m8, .ref m9, .ref m10, .int m11, .null, .int m13, .int m14, .ref m15, .ref m16, .ref m17, .ref m18, .ref m19, .int m20, .int m21, .int m22])), wa b1 cI 0 bf, wa b2 cI 199 bg] sz) := by
  refine Met.ofW (cc := cX15_put) (maxL := 2) (ret := (some .int)) (by decide) rfl ?_
  intro p e s m args below meth c s₁ B hml hv
  obtain ⟨rfl, hsz, hP, hK, hD0⟩ := hv
  have hx := B.exec
  have hb := B.bytes
  have hr := B.returns
  have hts := atoms_spec (ws := usX15_put) B.pre
  have hown : s.vm.findClass RX15 = some m.cls := findClass_of_methodNamed B.named
  have hlocks := B.notSynchronized
  subst hsz
  have hD := hD0.self (sz := s.heap.size)
  generalize hAe : va_A [(mo, .inr (22, [.int th, .ref b1, .ref m2, .ref m3, .ref m4, .int m5, .ref m6, .ref m7, .ref m8, .ref m9, .ref m10, .int m11, .null, .int m13, .int m14, .ref m15, .ref m16, .ref m17, .ref m18, .ref m19, .int m20, .int m21, .int m22])), wa b1 cI 0 bf, wa b2 cI 199 bg] s.heap.size = A at hD ⊢
  have hA : ∀ q : Nat, s.heap.size ≤ q → A q := fun q h => by rw [← hAe]; exact Or.inr h
  have hS : va_S A s.heap s.heap [] := va_S.rf
  have hl := lv_entry ([.ref mo, .ref b2]) (n := 2) (Nat.le_of_ble_eq_true rfl)
  rw [lg_entry_eq]
  generalize (lg_sl ([.ref mo, .ref b2]) ++ List.replicate (2 - (lg_sl ([.ref mo, .ref b2])).length) Slot.unset).toArray = ls at hl ⊢
  have hl : lv_has ls 2 [(0, .ref mo), (1, .ref b2)] := hl
  refine lv_aload_n hx hb dX15_put_0 rfl (lv_at hl 0 rfl) ?_
  refine lv_aload_n hx hb dX15_put_1 rfl (lv_at hl 0 rfl) ?_
  refine va_get (D := (dC, dI)) (ci := 22) (v := .ref b1) (C := RX15) (T := TX15) (N := 23) hx hb hts inX15_put_RX15 hown hK hP 0 rfl rfl 1 (by decide) (hts (.fieldLink RX15 7 "PatchferryModel" "buffer" "[I") (by decide +kernel)) (fun _ h9 => h9) rfl dX15_put_2 ?_
  refine lv_aload_n hx hb dX15_put_5 rfl (lv_at hl 1 rfl) ?_
  have hPc : va_P (dC, dI) vwCl [wa b1 cI 0 bf, wa b2 cI 199 bg] _ := hP.sub [1, 2] rfl
  have hDc : va_D _ [wa b1 cI 0 bf, wa b2 cI 199 bg] := hD.sub [1, 2] (by decide) rfl
  have hFc := va_free (wc := [wa b1 cI 0 bf, wa b2 cI 199 bg]) hD hS hA [1, 2] rfl
  have hKc := hK.sub (tys' := [(cI, .int), (cI, .int)]) [0, 0] rfl
  refine va_callr (va_runS (As := [.ref b1, .ref b2]) (rest := [.ref mo]) ⟨hx, hb, hml, hown, hts⟩ (c_joined l vwCl dC dI b1 b2 s.heap.size 0 199 bf bg cI cI (by omega)) (va_cwS 2 hts ugX15_put_X15_joined rfl rfl rfl (by decide +kernel) ⟨(by first | exact Nat.le_of_ble_eq_true rfl | omega | (dsimp only [headSpec]; omega) | (simp only [headSpec]; omega) | omega), (by first | exact Nat.le_of_ble_eq_true rfl | omega | (dsimp only [headSpec]; omega) | (simp only [headSpec]; omega) | omega)⟩) ⟨fun a U g mk q => by obtain ⟨q0, q1, qP, qK, qD⟩ := q; exact ⟨q0, q1, qP, va_K.moved (u := U) (U := U.calling g mk a) (Vm.Alike.refl U.vm) qK, qD⟩, fun U hU hW => ⟨rfl, by rw [hU], by rw [hU]; exact hPc, va_K.moved hW.alike hKc, hDc.weaken (fun _ _ _ _ => trivial)⟩⟩ rfl rfl hl.1 rfl (lv_room (Nat.le_of_ble_eq_true rfl)) dX15_put_6 ⟨(by first | exact Nat.le_of_ble_eq_true rfl | omega | (dsimp only [headSpec]; omega) | (simp only [headSpec]; omega) | omega), (by first | exact Nat.le_of_ble_eq_true rfl | omega | (dsimp only [headSpec]; omega) | (simp only [headSpec]; omega) | omega)⟩) hS (fun q _ h => hFc q h) hFc (fun u b3 t H locs ht hvm hw hB hz1 hk1 hS => ?_)
  obtain ⟨cR, bh⟩ := u
  obtain ⟨hP1, hK1, hD1⟩ := hB
  rw [ht] at hP1
  have hK1 := va_K.moved hvm.symm hK1
  obtain rfl := uc_eq (hK.app (hK1.sub (tys' := [(cR, .int)]) [2] rfl)) 0 2 rfl rfl
  obtain ⟨hP, hD⟩ := va_join (wr := [(mo, .inr (22, [.int th, .ref b1, .ref m2, .ref m3, .ref m4, .int m5, .ref m6, .ref m7, .ref m8, .ref m9, .ref m10, .int m11, .null, .int m13, .int m14, .ref m15, .ref m16, .ref m17, .ref m18, .ref m19, .int m20, .int m21, .int m22]))]) (w1 := [wa b1 cI 0 bf, wa b2 cI 199 bg, wa b3 cI 199 bh]) hP hD [1, 2] [0] rfl rfl (by decide) (by decide) hk1 hFc hP1 hD1
  have hP : va_P (dC, dI) vwCl [(mo, .inr (22, [.int th, .ref b1, .ref m2, .ref m3, .ref m4, .int m5, .ref m6, .ref m7, .ref m8, .ref m9, .ref m10, .int m11, .null, .int m13, .int m14, .ref m15, .ref m16, .ref m17, .ref m18, .ref m19, .int m20, .int m21, .int m22])), wa b1 cI 0 bf, wa b2 cI 199 bg, wa b3 cI 199 bh] H := hP
  have hD : va_D A [(mo, .inr (22, [.int th, .ref b1, .ref m2, .ref m3, .ref m4, .int m5, .ref m6, .ref m7, .ref m8, .ref m9, .ref m10, .int m11, .null, .int m13, .int m14, .ref m15, .ref m16, .ref m17, .ref m18, .ref m19, .int m20, .int m21, .int m22])), wa b1 cI 0 bf, wa b2 cI 199 bg, wa b3 cI 199 bh] := hD
  refine W.widen (k := 1) (n := 199) (by first | exact Nat.le_of_ble_eq_true rfl | omega | (dsimp only [headSpec]; omega) | (simp only [headSpec]; omega) | omega) (by first | exact Nat.le_of_ble_eq_true rfl | omega | (dsimp only [headSpec]; omega) | (simp only [headSpec]; omega) | omega) ?_
  have hbh : ∀ j, j < 199 → bh j = nI 255 := fun j hj => by have hw2 : bh j = jn bf bg 0 j := hw j (by omega); rw [hw2, jn, if_neg (by omega)]; exact hbg _ (by omega)
  refine va_put (D := (dC, dI)) (ci := 22) (v := .ref b3) (ty := .array .int) (C := RX15) (T := TX15) (N := 23) hx hb hts inX15_put_RX15 tyX15 tyX15_ok nmX15 hown hK hP hD hS 0 rfl rfl 1 (by decide) (hts (.fieldLink RX15 7 "PatchferryModel" "buffer" "[I") (by decide +kernel)) (fun _ h9 => h9) rfl (by decide +kernel) rfl rfl (Nat.le_of_ble_eq_true rfl) dX15_put_9 (fun H locs hP hD hS => ?_)
  have hP : va_P (dC, dI) vwCl [(mo, .inr (22, [.int th, .ref b3, .ref m2, .ref m3, .ref m4, .int m5, .ref m6, .ref m7, .ref m8, .ref m9, .ref m10, .int m11, .null, .int m13, .int m14, .ref m15, .ref m16, .ref m17, .ref m18, .ref m19, .int m20, .int m21, .int m22])), wa b1 cI 0 bf, wa b2 cI 199 bg, wa b3 cI 199 bh] H := hP
  have hD : va_D A [(mo, .inr (22, [.int th, .ref b3, .ref m2, .ref m3, .ref m4, .int m5, .ref m6, .ref m7, .ref m8, .ref m9, .ref m10, .int m11, .null, .int m13, .int m14, .ref m15, .ref m16, .ref m17, .ref m18, .ref m19, .int m20, .int m21, .int m22])), wa b1 cI 0 bf, wa b2 cI 199 bg, wa b3 cI 199 bh] := hD
  refine lv_aload_n hx hb dX15_put_12 rfl (lv_at hl 0 rfl) ?_
  refine va_get (D := (dC, dI)) (ci := 22) (v := .ref b3) (C := RX15) (T := TX15) (N := 23) hx hb hts inX15_put_RX15 hown hK hP 0 rfl rfl 1 (by decide) (hts (.fieldLink RX15 7 "PatchferryModel" "buffer" "[I") (by decide +kernel)) (fun _ h9 => h9) rfl dX15_put_13 ?_
  refine va_alen (D := (dC, dI)) hx hb hK hP 3 0 rfl rfl rfl dX15_put_16 ?_
  have hPe : va_P (dC, dI) vwCl [(mo, .inr (22, [.int th, .ref b3, .ref m2, .ref m3, .ref m4, .int m5, .ref m6, .ref m7, .ref m8, .ref m9, .ref m10, .int m11, .null, .int m13, .int m14, .ref m15, .ref m16, .ref m17, .ref m18, .ref m19, .int m20, .int m21, .int m22])), wa b3 cI 199 bh] _ := hP.sub [0, 3] rfl
  have hDe : va_D A [(mo, .inr (22, [.int th, .ref b3, .ref m2, .ref m3, .ref m4, .int m5, .ref m6, .ref m7, .ref m8, .ref m9, .ref m10, .int m11, .null, .int m13, .int m14, .ref m15, .ref m16, .ref m17, .ref m18, .ref m19, .int m20, .int m21, .int m22])), wa b3 cI 199 bh] := hD.sub [0, 3] (by decide) rfl
  refine W.widen (k := 1) (n := 199) (by first | exact Nat.le_of_ble_eq_true rfl | omega | (dsimp only [headSpec]; omega) | (simp only [headSpec]; omega) | omega) (by first | exact Nat.le_of_ble_eq_true rfl | omega | (dsimp only [headSpec]; omega) | (simp only [headSpec]; omega) | omega) ?_
  exact W.iret (v := nI 199) hx hb hr (fun t ht hW => ⟨⟨_, (), rfl, trivial, _, _, hbh, by rw [ht]; exact hPe, va_K.moved hW.alike hK, hDe⟩, hS.F ht⟩) hS.2.2 dX15_put_17
set_option maxHeartbeats 4000000 in
set_option maxRecDepth 100000 in
theorem mrepeat_loop {p : Program} {l : Launch} {e : Env} {R : Room} {s : State} {m : MethodId} {args : Array Value} {below : List Frame} {meth : Method} {c : Code} {cells slots : Nat} {Q : State → Prop} {dC : Nat → ClassId} {dI : Nat → Nat → Nat} {cI cO : ClassId} {mo : Nat} {m2 : Nat} {m3 : Nat} {m4 : Nat} {m5 : Int32} {m6 : Nat} {m7 : Nat} {m8 : Nat} {m9 : Nat} {m10 : Nat} {m11 : Int32} {m13 : Int32} {m14 : Int32} {m15 : Nat} {m16 : Nat} {m17 : Nat} {m18 : Nat} {m19 : Nat} {m20 : Int32} {m21 : Int32} {m22 : Int32} {b1 : Nat} {bf : Nat → Int32} {b2 : Nat} {A : Nat → Prop} {H0 : Heap} (hx : p.tables.exec = Jvm.exec) (hb : c.code = cX15_repeat) (hml : c.maxLocals = 5) (hown : s.vm.findClass RX15 = some m.cls) (hts : ∀ w ∈ usX15_repeat, w.before args s = true) (hK : va_K (dC, dI) vwCl (ty0 cI cO) s) (hRf : 0 ≤ R.frames) (hRl : 0 ≤ R.locals) (hRc : cells + 0 ≤ R.cells) (hRs : slots + 0 ≤ R.slots) (hA : ∀ q : Nat, H0.size ≤ q → A q) (kk : ∀ (bg : Nat → Int32) (H : Heap) (locs : List Loc) (ls : Array Slot), (∀ j, j < 199 → bg j = nI 255) → va_P (dC, dI) vwCl [(mo, .inr (22, [.int (nI 0), .ref b1, .ref m2, .ref m3, .ref m4, .int m5, .ref m6, .ref m7, .ref m8, .ref m9, .ref m10, .int m11, .null, .int m13, .int m14, .ref m15, .ref m16, .ref m17, .ref m18, .ref m19, .int m20, .int m21, .int m22])), wa b1 cI 0 bf, wa b2 cI 199 bg] H → va_D A [(mo, .inr (22, [.int (nI 0), .ref b1, .ref m2, .ref m3, .ref m4, .int m5, .ref m6, .ref m7, .ref m8, .ref m9, .ref m10, .int m11, .null, .int m13, .int m14, .ref m15, .ref m16, .ref m17, .ref m18, .ref m19, .int m20, .int m21, .int m22])), wa b1 cI 0 bf, wa b2 cI 199 bg] → va_S A H0 H locs → lv_has ls 5 [(0, .ref mo), (3, .ref b2)] → W p l e R s m args below meth c H locs cells slots Q (F0 m 77 ls [])) :
    ∀ (k : Nat), ∀ (i : Nat) (bg : Nat → Int32) (H : Heap) (locs : List Loc) (ls : Array Slot), (199 < i + k) → (i ≤ 199) → (∀ j, j < i → bg j = nI 255) → va_P (dC, dI) vwCl [(mo, .inr (22, [.int (nI 0), .ref b1, .ref m2, .ref m3, .ref m4, .int m5, .ref m6, .ref m7, .ref m8, .ref m9, .ref m10, .int m11, .null, .int m13, .int m14, .ref m15, .ref m16, .ref m17, .ref m18, .ref m19, .int m20, .int m21, .int m22])), wa b1 cI 0 bf, wa b2 cI 199 bg] H → va_D A [(mo, .inr (22, [.int (nI 0), .ref b1, .ref m2, .ref m3, .ref m4, .int m5, .ref m6, .ref m7, .ref m8, .ref m9, .ref m10, .int m11, .null, .int m13, .int m14, .ref m15, .ref m16, .ref m17, .ref m18, .ref m19, .int m20, .int m21, .int m22])), wa b1 cI 0 bf, wa b2 cI 199 bg] → va_S A H0 H locs → lv_has ls 5 [(0, .ref mo), (1, .int (nI 255)), (2, .int (nI 199)), (3, .ref b2), (4, .int (nI i))] → W p l e R s m args below meth c H locs cells slots Q (F0 m 60 ls []) := by
  intro k
  induction k with
  | zero => intro i bg H locs ls hk hi hv hP hD hS hl; omega
  | succ k ih =>
    intro i bg H locs ls hk hi hv hP hD hS hl
    refine lv_iload hx hb dX15_repeat_60 (lv_at hl 4 rfl) ?_
    refine lv_iload_n hx hb dX15_repeat_62 rfl (lv_at hl 2 rfl) ?_
    refine lv_icmp_ge (tgt := 77) hx hb dX15_repeat_63 (by decide) (fun c_1 => ?_) (fun c_1 => ?_)
    · obtain rfl : i = 199 := by
        rcases Nat.lt_or_ge i 199 with q | q
        · exact absurd c_1 (nI_ge q (by omega))
        · omega
      exact kk bg H locs ls hv hP hD hS (lv_sub hl [0, 3] rfl)
    · have hlt : i < 199 := by
        rcases Nat.lt_or_ge i 199 with q | q
        · exact q
        · exact absurd (nI_le q (by omega)) c_1
      refine lv_aload_n hx hb dX15_repeat_66 rfl (lv_at hl 3 rfl) ?_
      refine lv_iload hx hb dX15_repeat_67 (lv_at hl 4 rfl) ?_
      refine lv_iload_n hx hb dX15_repeat_69 rfl (lv_at hl 1 rfl) ?_
      refine va_iast (D := (dC, dI)) hx hb hK hP hD hS 2 0 rfl rfl (vp_in_nI hlt (by omega)) dX15_repeat_70 (fun H locs hP hD hS => ?_)
      have hP : va_P (dC, dI) vwCl [(mo, .inr (22, [.int (nI 0), .ref b1, .ref m2, .ref m3, .ref m4, .int m5, .ref m6, .ref m7, .ref m8, .ref m9, .ref m10, .int m11, .null, .int m13, .int m14, .ref m15, .ref m16, .ref m17, .ref m18, .ref m19, .int m20, .int m21, .int m22])), wa b1 cI 0 bf, wa b2 cI 199 (upd bg (nI i).toNatClampNeg (nI 255))] H := hP
      have hD : va_D A [(mo, .inr (22, [.int (nI 0), .ref b1, .ref m2, .ref m3, .ref m4, .int m5, .ref m6, .ref m7, .ref m8, .ref m9, .ref m10, .int m11, .null, .int m13, .int m14, .ref m15, .ref m16, .ref m17, .ref m18, .ref m19, .int m20, .int m21, .int m22])), wa b1 cI 0 bf, wa b2 cI 199 (upd bg (nI i).toNatClampNeg (nI 255))] := hD
      refine lv_iinc (v := (nI (i + 1))) (lv' := [(4, .int (nI (i + 1))), (0, .ref mo), (1, .int (nI 255)), (2, .int (nI 199)), (3, .ref b2)]) hx hb dX15_repeat_71 hl (k := 4) rfl (by rw [nI_succ]; rfl) (by decide) rfl (fun ls hl => ?_)
      refine lv_goto (tgt := 60) hx hb dX15_repeat_74 (by decide) ?_
      exact ih (i + 1) _ H locs ls (by omega) (by omega) (fun j hj => by rw [nI_clamp (by omega)]; exact (Nat.lt_or_ge j i).elim (fun q => (pk_un (by omega)).trans (hv j q)) (fun q => by have e0 : j = i := (by omega); subst e0; exact pk_us)) hP hD hS (lv_sub hl [1, 2, 3, 4, 0] rfl)
set_option maxHeartbeats 4000000 in
set_option maxRecDepth 100000 in
theorem c_mrepeat (l : Launch) (dC : Nat → ClassId) (dI : Nat → Nat → Nat) (cI cO : ClassId) (sz : Nat) (mo : Nat) (m2 : Nat) (m3 : Nat) (m4 : Nat) (m5 : Int32) (m6 : Nat) (m7 : Nat) (m8 : Nat) (m9 : Nat) (m10 : Nat) (m11 : Int32) (m13 : Int32) (m14 : Int32) (m15 : Nat) (m16 : Nat) (m17 : Nat) (m18 : Nat) (m19 : Nat) (m20 : Int32) (m21 : Int32) (m22 : Int32) (th : Int32) (b1 : Nat) (bf : Nat → Int32) : Met l yX15_repeat usX15_repeat ({ frames := 2, cells := 2, slots := 398, locals := 44 }) (va_Pc [.ref mo, .int (nI 255), .int (nI 199)] (fun U => U.heap.size = sz ∧ va_P (dC, dI) vwCl [(mo, .inr (22, [.int th, .ref b1, .ref m2, .ref m3, .ref m4, .int m5, .ref m6, .ref m7, .ref m8, .ref m9, .ref m10, .int m11, .null, .int m13, .int m14, .ref m15, .ref m16, .ref m17, .ref m18, .ref m19, .int m20, .int m21, .int m22])), wa b1 cI 0 bf] U.heap ∧ va_K (dC, dI) vwCl (ty0 cI cO) U ∧ va_D (fun _ => True) [(mo, .inr (22, [.int th, .ref b1, .ref m2, .ref m3, .ref m4, .int m5, .ref m6, .ref m7, .ref m8, .ref m9, .ref m10, .int m11, .null, .int m13, .int m14, .ref m15, .ref m16, .ref m17, .ref m18, .ref m19, .int m20, .int m21, .int m22])), wa b1 cI 0 bf])) (va_Qi (fun (r : Int32) (_ : Unit) => True) (fun _ t => ∃ (b3 : Nat), ∃ (bh : Nat → Int32), (∀ j, j < 199 → bh j = nI 255) ∧ va_P (dC, dI) vwCl [(mo, .inr (22, [.int (nI 0), .ref b3, .ref m2, .ref m3, .ref m4, .int m5, .ref m6, .ref m7, .ref m8, .ref m9, .ref m10, .int m11, .null, .int m13, .int m14, .ref m15, .ref m16, .ref m17, .ref m18, .ref m19, .int m20, .int m21, .int m22])), wa b3 cI 199 bh] t.heap ∧ va_K (dC, dI) vwCl (ty0 cI cO) t ∧ va_D (va_A [(mo, .inr (22, [.int th, .ref b1, .ref m2, .ref m3, .ref m4, .int m5, .ref m6, .ref m7, .ref m8, .ref m9, .ref m10, .int m11, .null, .int m13, .int m14, .ref m15, .ref m16, .ref m17, .ref m18, .ref m19, .int m20, .int m21, .int m22])), wa b1 cI 0 bf] sz) [(mo, .inr (22, [.int (nI 0), .ref b3, .ref m2, .ref m3, .ref m4, .int m5, .ref m6, .ref m7, .ref m8, .ref m9, .ref m10, .int m11, .null, .int m13, .int m14, .ref m15, .ref m16, .ref m17, .ref m18, .ref m19, .int m20, .int m21, .int m22])), wa b3 cI 199 bh]) (va_A [(mo, .inr (22, [.int th, .ref b1, .ref m2, .ref m3, .ref m4, .int m5, .ref m6, .ref m7, .ref m8, .ref m9, .ref m10, .int m11, .null, .int m13, .int m14, .ref m15, .ref m16, .ref m17, .ref m18, .ref m19, .int m20, .int m21, .int m22])), wa b1 cI 0 bf] sz)) 2 398 (va_A [(mo, .inr (22, [.int th, .ref b1, .ref m2, .ref m3, .ref m4, .int m5, .ref m6, .ref m7, .ref m8, .ref m9, .ref m10, .int m11, .null, .int m13, .int m14, .ref m15, .ref m16, .ref m17, .ref m18, .ref m19, .int m20, .int m21, .int m22])), wa b1 cI 0 bf] sz) := by
  refine Met.ofW (cc := cX15_repeat) (maxL := 5) (ret := (some .int)) (by decide) rfl ?_
  intro p e s m args below meth c s₁ B hml hv
  obtain ⟨rfl, hsz, hP, hK, hD0⟩ := hv
  have hx := B.exec
  have hb := B.bytes
  have hr := B.returns
  have hts := atoms_spec (ws := usX15_repeat) B.pre
  have hown : s.vm.findClass RX15 = some m.cls := findClass_of_methodNamed B.named
  have hlocks := B.notSynchronized
  subst hsz
  have hD := hD0.self (sz := s.heap.size)
  generalize hAe : va_A [(mo, .inr (22, [.int th, .ref b1, .ref m2, .ref m3, .ref m4, .int m5, .ref m6, .ref m7, .ref m8, .ref m9, .ref m10, .int m11, .null, .int m13, .int m14, .ref m15, .ref m16, .ref m17, .ref m18, .ref m19, .int m20, .int m21, .int m22])), wa b1 cI 0 bf] s.heap.size = A at hD ⊢
  have hA : ∀ q : Nat, s.heap.size ≤ q → A q := fun q h => by rw [← hAe]; exact Or.inr h
  have hS : va_S A s.heap s.heap [] := va_S.rf
  have hl := lv_entry ([.ref mo, .int (nI 255), .int (nI 199)]) (n := 5) (Nat.le_of_ble_eq_true rfl)
  rw [lg_entry_eq]
  generalize (lg_sl ([.ref mo, .int (nI 255), .int (nI 199)]) ++ List.replicate (5 - (lg_sl ([.ref mo, .int (nI 255), .int (nI 199)])).length) Slot.unset).toArray = ls at hl ⊢
  have hl : lv_has ls 5 [(0, .ref mo), (1, .int (nI 255)), (2, .int (nI 199))] := hl
  refine lv_aload_n hx hb dX15_repeat_0 rfl (lv_at hl 0 rfl) ?_
  refine lv_iload_n hx hb dX15_repeat_1 rfl (lv_at hl 1 rfl) ?_
  refine lv_iconst (v := nI 0) hx hb dX15_repeat_2 (by decide) ?_
  refine lv_sipush (v := nI 255) hx hb dX15_repeat_3 (by decide) ?_
  have hPc : va_P (dC, dI) vwCl [] _ := hP.sub [] rfl
  refine uc_i (va_runS (As := [.int (nI 255), .int (nI 0), .int (nI 255)]) (rest := [.ref mo]) ⟨hx, hb, hml, hown, hts⟩ (p_in l dC dI cI cO 255 0 255 (by omega) (by omega) (by omega)) (va_cwS 3 hts ugX15_repeat_X15_in rfl rfl rfl (by decide +kernel) ⟨(by first | exact Nat.le_of_ble_eq_true rfl | omega | (dsimp only [headSpec]; omega) | (simp only [headSpec]; omega) | omega), (by first | exact Nat.le_of_ble_eq_true rfl | omega | (dsimp only [headSpec]; omega) | (simp only [headSpec]; omega) | omega)⟩) ⟨fun a U g mk q => by obtain ⟨q0, qP, qK⟩ := q; exact ⟨q0, qP, va_K.moved (u := U) (U := U.calling g mk a) (Vm.Alike.refl U.vm) qK⟩, fun U hU hW => ⟨rfl, by rw [hU]; exact hPc, va_K.moved hW.alike hK⟩⟩ rfl rfl hl.1 rfl (lv_room (Nat.le_of_ble_eq_true rfl)) dX15_repeat_6 ⟨(by first | exact Nat.le_of_ble_eq_true rfl | omega | (dsimp only [headSpec]; omega) | (simp only [headSpec]; omega) | omega), (by first | exact Nat.le_of_ble_eq_true rfl | omega | (dsimp only [headSpec]; omega) | (simp only [headSpec]; omega) | omega)⟩) (fun r1 er1 => ?_)
  subst er1
  refine lv_if_eq (tgt := 23) hx hb dX15_repeat_9 (by decide) (fun hb1 => absurd hb1 (by decide)) (fun hb1 => ?_)
  refine lv_iload_n hx hb dX15_repeat_12 rfl (lv_at hl 2 rfl) ?_
  refine lv_iconst (v := nI 1) hx hb dX15_repeat_13 (by decide) ?_
  refine lv_sipush (v := nI 200) hx hb dX15_repeat_14 (by decide) ?_
  have hPc : va_P (dC, dI) vwCl [] _ := hP.sub [] rfl
  refine uc_i (va_runS (As := [.int (nI 199), .int (nI 1), .int (nI 200)]) (rest := [.ref mo]) ⟨hx, hb, hml, hown, hts⟩ (p_in l dC dI cI cO 199 1 200 (by omega) (by omega) (by omega)) (va_cwS 3 hts ugX15_repeat_X15_in rfl rfl rfl (by decide +kernel) ⟨(by first | exact Nat.le_of_ble_eq_true rfl | omega | (dsimp only [headSpec]; omega) | (simp only [headSpec]; omega) | omega), (by first | exact Nat.le_of_ble_eq_true rfl | omega | (dsimp only [headSpec]; omega) | (simp only [headSpec]; omega) | omega)⟩) ⟨fun a U g mk q => by obtain ⟨q0, qP, qK⟩ := q; exact ⟨q0, qP, va_K.moved (u := U) (U := U.calling g mk a) (Vm.Alike.refl U.vm) qK⟩, fun U hU hW => ⟨rfl, by rw [hU]; exact hPc, va_K.moved hW.alike hK⟩⟩ rfl rfl hl.1 rfl (lv_room (Nat.le_of_ble_eq_true rfl)) dX15_repeat_17 ⟨(by first | exact Nat.le_of_ble_eq_true rfl | omega | (dsimp only [headSpec]; omega) | (simp only [headSpec]; omega) | omega), (by first | exact Nat.le_of_ble_eq_true rfl | omega | (dsimp only [headSpec]; omega) | (simp only [headSpec]; omega) | omega)⟩) (fun r2 er2 => ?_)
  subst er2
  refine lv_if_ne (tgt := 27) hx hb dX15_repeat_20 (by decide) (fun hb2 => ?_) (fun hb2 => absurd hb2 (by decide))
  refine lv_aload_n hx hb dX15_repeat_27 rfl (lv_at hl 0 rfl) ?_
  refine va_get (D := (dC, dI)) (ci := 22) (v := .ref b1) (C := RX15) (T := TX15) (N := 23) hx hb hts inX15_repeat_RX15 hown hK hP 0 rfl rfl 1 (by decide) (hts (.fieldLink RX15 7 "PatchferryModel" "buffer" "[I") (by decide +kernel)) (fun _ h9 => h9) rfl dX15_repeat_28 ?_
  refine va_alen (D := (dC, dI)) hx hb hK hP 1 0 rfl rfl rfl dX15_repeat_31 ?_
  refine lv_iload_n hx hb dX15_repeat_32 rfl (lv_at hl 2 rfl) ?_
  refine lv_iadd hx hb dX15_repeat_33 ?_
  refine lv_topi (fun y_1 ey_1 => ?_)
  have h_2 : y_1 = nI 199 := ey_1.trans (nI_add 0 199)
  subst h_2
  refine lv_sipush (v := nI 200) hx hb dX15_repeat_34 (by decide) ?_
  refine lv_icmp_le (tgt := 44) hx hb dX15_repeat_37 (by decide) (fun hb3 => ?_) (fun hb3 => absurd (by decide) hb3)
  refine lv_iconst (v := nI 0) hx hb dX15_repeat_44 (by decide) ?_
  have hPc : va_P (dC, dI) vwCl [(mo, .inr (22, [.int th, .ref b1, .ref m2, .ref m3, .ref m4, .int m5, .ref m6, .ref m7, .ref m8, .ref m9, .ref m10, .int m11, .null, .int m13, .int m14, .ref m15, .ref m16, .ref m17, .ref m18, .ref m19, .int m20, .int m21, .int m22]))] _ := hP.sub [0] rfl
  have hDc : va_D _ [(mo, .inr (22, [.int th, .ref b1, .ref m2, .ref m3, .ref m4, .int m5, .ref m6, .ref m7, .ref m8, .ref m9, .ref m10, .int m11, .null, .int m13, .int m14, .ref m15, .ref m16, .ref m17, .ref m18, .ref m19, .int m20, .int m21, .int m22]))] := hD.sub [0] (by decide) rfl
  have hFc := va_free (wc := [(mo, .inr (22, [.int th, .ref b1, .ref m2, .ref m3, .ref m4, .int m5, .ref m6, .ref m7, .ref m8, .ref m9, .ref m10, .int m11, .null, .int m13, .int m14, .ref m15, .ref m16, .ref m17, .ref m18, .ref m19, .int m20, .int m21, .int m22]))]) hD hS hA [0] rfl
  refine va_calli (va_runV (As := [.int (nI 0)]) (rest := []) ⟨hx, hb, hml, hown, hts⟩ (c_fails l dC dI cI cO s.heap.size mo m2 m3 m4 m5 m6 m7 m8 m9 m10 m11 m13 m14 m15 m16 m17 m18 m19 m20 m21 m22 th b1) (cwV 1 hts ugX15_repeat_X15_fails rfl rfl rfl (by decide +kernel) ⟨(by first | exact Nat.le_of_ble_eq_true rfl | omega | (dsimp only [headSpec]; omega) | (simp only [headSpec]; omega) | omega), (by first | exact Nat.le_of_ble_eq_true rfl | omega | (dsimp only [headSpec]; omega) | (simp only [headSpec]; omega) | omega)⟩) ⟨fun a U g mk q => by obtain ⟨q0, q1, qP, qK, qD⟩ := q; exact ⟨q0, q1, qP, va_K.moved (u := U) (U := U.calling g mk a) (Vm.Alike.refl U.vm) qK, qD⟩, va_recv hK hP (ci := 22) (q0 := 0) rfl rfl, fun U hU hW => ⟨rfl, by rw [hU], by rw [hU]; exact hPc, va_K.moved hW.alike hK, hDc.weaken (fun _ _ _ _ => trivial)⟩⟩ rfl rfl hl.1 rfl (lv_room (Nat.le_of_ble_eq_true rfl)) dX15_repeat_45 ⟨(by first | exact Nat.le_of_ble_eq_true rfl | omega | (dsimp only [headSpec]; omega) | (simp only [headSpec]; omega) | omega), (by first | exact Nat.le_of_ble_eq_true rfl | omega | (dsimp only [headSpec]; omega) | (simp only [headSpec]; omega) | omega)⟩) hS (fun q _ h => hFc q h) hFc (fun r3 u t H locs ht hvm hw hB hz1 hk1 hS => ?_)
  obtain ⟨hP1, hK1, hD1⟩ := hB
  rw [ht] at hP1
  obtain ⟨hP, hD⟩ := va_join (wr := [wa b1 cI 0 bf]) (w1 := [(mo, .inr (22, [.int (nI 0), .ref b1, .ref m2, .ref m3, .ref m4, .int m5, .ref m6, .ref m7, .ref m8, .ref m9, .ref m10, .int m11, .null, .int m13, .int m14, .ref m15, .ref m16, .ref m17, .ref m18, .ref m19, .int m20, .int m21, .int m22]))]) hP hD [0] [1] rfl rfl (by decide) (by decide) hk1 hFc hP1 hD1
  have hP : va_P (dC, dI) vwCl [wa b1 cI 0 bf, (mo, .inr (22, [.int (nI 0), .ref b1, .ref m2, .ref m3, .ref m4, .int m5, .ref m6, .ref m7, .ref m8, .ref m9, .ref m10, .int m11, .null, .int m13, .int m14, .ref m15, .ref m16, .ref m17, .ref m18, .ref m19, .int m20, .int m21, .int m22]))] H := hP
  have hD : va_D A [wa b1 cI 0 bf, (mo, .inr (22, [.int (nI 0), .ref b1, .ref m2, .ref m3, .ref m4, .int m5, .ref m6, .ref m7, .ref m8, .ref m9, .ref m10, .int m11, .null, .int m13, .int m14, .ref m15, .ref m16, .ref m17, .ref m18, .ref m19, .int m20, .int m21, .int m22]))] := hD
  subst hw
  refine lv_if_eq (tgt := 53) hx hb dX15_repeat_48 (by decide) (fun hb4 => ?_) (fun hb4 => absurd rfl hb4)
  refine lv_iload_n hx hb dX15_repeat_53 rfl (lv_at hl 2 rfl) ?_
  refine va_newa (D := (dC, dI)) (atype := .int) (N' := 199) (a0 := (199, .inl (fun _ => 0))) hx hb (hts (.arrayClass .int) (by decide +kernel)) rfl hK hP hD hS hA (fun _ => rfl) (by decide) (by decide) (by decide) (by first | exact Nat.le_of_ble_eq_true rfl | omega | (dsimp only [headSpec]; omega) | (simp only [headSpec]; omega) | omega) (by first | exact Nat.le_of_ble_eq_true rfl | omega | (dsimp only [headSpec]; omega) | (simp only [headSpec]; omega) | omega) dX15_repeat_54 (fun q_3 cQ_4 H hK2 hP hD hS => ?_)
  obtain rfl := uc_eq hK2 0 2 rfl rfl
  have hP : va_P (dC, dI) vwCl [wa b1 cI 0 bf, (mo, .inr (22, [.int (nI 0), .ref b1, .ref m2, .ref m3, .ref m4, .int m5, .ref m6, .ref m7, .ref m8, .ref m9, .ref m10, .int m11, .null, .int m13, .int m14, .ref m15, .ref m16, .ref m17, .ref m18, .ref m19, .int m20, .int m21, .int m22])), wa q_3 cI 199 (fun _ => 0)] H := hP
  have hD : va_D A [wa b1 cI 0 bf, (mo, .inr (22, [.int (nI 0), .ref b1, .ref m2, .ref m3, .ref m4, .int m5, .ref m6, .ref m7, .ref m8, .ref m9, .ref m10, .int m11, .null, .int m13, .int m14, .ref m15, .ref m16, .ref m17, .ref m18, .ref m19, .int m20, .int m21, .int m22])), wa q_3 cI 199 (fun _ => 0)] := hD
  refine W.widen (k := 1) (n := 199) (by first | exact Nat.le_of_ble_eq_true rfl | omega | (dsimp only [headSpec]; omega) | (simp only [headSpec]; omega) | omega) (by first | exact Nat.le_of_ble_eq_true rfl | omega | (dsimp only [headSpec]; omega) | (simp only [headSpec]; omega) | omega) ?_
  refine lv_astore_n (lv' := [(3, .ref q_3), (0, .ref mo), (1, .int (nI 255)), (2, .int (nI 199))]) hx hb dX15_repeat_56 rfl hl (by decide) rfl (fun ls hl => ?_)
  refine lv_iconst (v := nI 0) hx hb dX15_repeat_57 (by decide) ?_
  refine lv_istore (lv' := [(4, .int (nI 0)), (3, .ref q_3), (0, .ref mo), (1, .int (nI 255)), (2, .int (nI 199))]) hx hb dX15_repeat_58 hl (by decide) rfl (fun ls hl => ?_)
  refine mrepeat_loop hx hb hml hown hts hK (by first | exact Nat.le_of_ble_eq_true rfl | omega | (dsimp only [headSpec]; omega) | (simp only [headSpec]; omega) | omega) (by first | exact Nat.le_of_ble_eq_true rfl | omega | (dsimp only [headSpec]; omega) | (simp only [headSpec]; omega) | omega) (by first | exact Nat.le_of_ble_eq_true rfl | omega | (dsimp only [headSpec]; omega) | (simp only [headSpec]; omega) | omega) (by first | exact Nat.le_of_ble_eq_true rfl | omega | (dsimp only [headSpec]; omega) | (simp only [headSpec]; omega) | omega) hA ?_ 200 0 (fun _ => 0) H locs ls (by omega) (by omega) (fun j hj => absurd hj (by omega)) (hP.sub [1, 0, 2] rfl) (hD.sub [1, 0, 2] (by decide) rfl) hS (lv_sub hl [2, 3, 4, 1, 0] rfl)
  intro bg H locs ls hv hP hD hS hl
  refine lv_aload_n hx hb dX15_repeat_77 rfl (lv_at hl 0 rfl) ?_
  refine lv_aload_n hx hb dX15_repeat_78 rfl (lv_at hl 1 rfl) ?_
  have hPc : va_P (dC, dI) vwCl [(mo, .inr (22, [.int (nI 0), .ref b1, .ref m2, .ref m3, .ref m4, .int m5, .ref m6, .ref m7, .ref m8, .ref m9, .ref m10, .int m11, .null, .int m13, .int m14, .ref m15, .ref m16, .ref m17, .ref m18, .ref m19, .int m20, .int m21, .int m22])), wa b1 cI 0 bf, wa q_3 cI 199 bg] _ := hP.sub [0, 1, 2] rfl
  have hDc : va_D _ [(mo, .inr (22, [.int (nI 0), .ref b1, .ref m2, .ref m3, .ref m4, .int m5, .ref m6, .ref m7, .ref m8, .ref m9, .ref m10, .int m11, .null, .int m13, .int m14, .ref m15, .ref m16, .ref m17, .ref m18, .ref m19, .int m20, .int m21, .int m22])), wa b1 cI 0 bf, wa q_3 cI 199 bg] := hD.sub [0, 1, 2] (by decide) rfl
  have hFc := va_free (wc := [(mo, .inr (22, [.int (nI 0), .ref b1, .ref m2, .ref m3, .ref m4, .int m5, .ref m6, .ref m7, .ref m8, .ref m9, .ref m10, .int m11, .null, .int m13, .int m14, .ref m15, .ref m16, .ref m17, .ref m18, .ref m19, .int m20, .int m21, .int m22])), wa b1 cI 0 bf, wa q_3 cI 199 bg]) hD hS hA [0, 1, 2] rfl
  refine va_calli (va_runV (As := [.ref q_3]) (rest := []) ⟨hx, hb, hml, hown, hts⟩ (c_put l dC dI cI cO H.size mo m2 m3 m4 m5 m6 m7 m8 m9 m10 m11 m13 m14 m15 m16 m17 m18 m19 m20 m21 m22 (nI 0) b1 bf q_3 bg hv) (cwV 1 hts ugX15_repeat_X15_put rfl rfl rfl (by decide +kernel) ⟨(by first | exact Nat.le_of_ble_eq_true rfl | omega | (dsimp only [headSpec]; omega) | (simp only [headSpec]; omega) | omega), (by first | exact Nat.le_of_ble_eq_true rfl | omega | (dsimp only [headSpec]; omega) | (simp only [headSpec]; omega) | omega)⟩) ⟨fun a U g mk q => by obtain ⟨q0, q1, qP, qK, qD⟩ := q; exact ⟨q0, q1, qP, va_K.moved (u := U) (U := U.calling g mk a) (Vm.Alike.refl U.vm) qK, qD⟩, va_recv hK hP (ci := 22) (q0 := 0) rfl rfl, fun U hU hW => ⟨rfl, by rw [hU], by rw [hU]; exact hPc, va_K.moved hW.alike hK, hDc.weaken (fun _ _ _ _ => trivial)⟩⟩ rfl rfl hl.1 rfl (lv_room (Nat.le_of_ble_eq_true rfl)) dX15_repeat_79 ⟨(by first | exact Nat.le_of_ble_eq_true rfl | omega | (dsimp only [headSpec]; omega) | (simp only [headSpec]; omega) | omega), (by first | exact Nat.le_of_ble_eq_true rfl | omega | (dsimp only [headSpec]; omega) | (simp only [headSpec]; omega) | omega)⟩) hS (fun q _ h => hFc q h) hFc (fun r5 u t H locs ht hvm hw hB hz1 hk1 hS => ?_)
  obtain ⟨b3, bh, hbh, hP1, hK1, hD1⟩ := hB
  rw [ht] at hP1
  obtain ⟨hP, hD⟩ := va_join (wr := []) (w1 := [(mo, .inr (22, [.int (nI 0), .ref b3, .ref m2, .ref m3, .ref m4, .int m5, .ref m6, .ref m7, .ref m8, .ref m9, .ref m10, .int m11, .null, .int m13, .int m14, .ref m15, .ref m16, .ref m17, .ref m18, .ref m19, .int m20, .int m21, .int m22])), wa b3 cI 199 bh]) hP hD [0, 1, 2] [] rfl rfl (by decide) (by decide) hk1 hFc hP1 hD1
  have hP : va_P (dC, dI) vwCl [(mo, .inr (22, [.int (nI 0), .ref b3, .ref m2, .ref m3, .ref m4, .int m5, .ref m6, .ref m7, .ref m8, .ref m9, .ref m10, .int m11, .null, .int m13, .int m14, .ref m15, .ref m16, .ref m17, .ref m18, .ref m19, .int m20, .int m21, .int m22])), wa b3 cI 199 bh] H := hP
  have hD : va_D A [(mo, .inr (22, [.int (nI 0), .ref b3, .ref m2, .ref m3, .ref m4, .int m5, .ref m6, .ref m7, .ref m8, .ref m9, .ref m10, .int m11, .null, .int m13, .int m14, .ref m15, .ref m16, .ref m17, .ref m18, .ref m19, .int m20, .int m21, .int m22])), wa b3 cI 199 bh] := hD
  refine W.widen (k := 2) (n := 398) (by first | exact Nat.le_of_ble_eq_true rfl | omega | (dsimp only [headSpec]; omega) | (simp only [headSpec]; omega) | omega) (by first | exact Nat.le_of_ble_eq_true rfl | omega | (dsimp only [headSpec]; omega) | (simp only [headSpec]; omega) | omega) ?_
  have hPe : va_P (dC, dI) vwCl [(mo, .inr (22, [.int (nI 0), .ref b3, .ref m2, .ref m3, .ref m4, .int m5, .ref m6, .ref m7, .ref m8, .ref m9, .ref m10, .int m11, .null, .int m13, .int m14, .ref m15, .ref m16, .ref m17, .ref m18, .ref m19, .int m20, .int m21, .int m22])), wa b3 cI 199 bh] _ := hP.sub [0, 1] rfl
  have hDe : va_D A [(mo, .inr (22, [.int (nI 0), .ref b3, .ref m2, .ref m3, .ref m4, .int m5, .ref m6, .ref m7, .ref m8, .ref m9, .ref m10, .int m11, .null, .int m13, .int m14, .ref m15, .ref m16, .ref m17, .ref m18, .ref m19, .int m20, .int m21, .int m22])), wa b3 cI 199 bh] := hD.sub [0, 1] (by decide) rfl
  refine W.widen (k := 2) (n := 398) (by first | exact Nat.le_of_ble_eq_true rfl | omega | (dsimp only [headSpec]; omega) | (simp only [headSpec]; omega) | omega) (by first | exact Nat.le_of_ble_eq_true rfl | omega | (dsimp only [headSpec]; omega) | (simp only [headSpec]; omega) | omega) ?_
  exact W.iret (v := r5) hx hb hr (fun t ht hW => ⟨⟨_, (), rfl, trivial, _, _, hbh, by rw [ht]; exact hPe, va_K.moved hW.alike hK, hDe⟩, hS.F ht⟩) hS.2.2 dX15_repeat_82
set_option maxHeartbeats 4000000 in
set_option maxRecDepth 100000 in
theorem c_mkeep (l : Launch) (dC : Nat → ClassId) (dI : Nat → Nat → Nat) (cI cO : ClassId) (z0 : Nat) (sz : Nat) (mo : Nat) (m2 : Nat) (m3 : Nat) (m4 : Nat) (m5 : Int32) (m6 : Nat) (m7 : Nat) (m8 : Nat) (m9 : Nat) (m10 : Nat) (m11 : Int32) (m13 : Int32) (m14 : Int32) (m15 : Nat) (m16 : Nat) (m17 : Nat) (m18 : Nat) (m19 : Nat) (m20 : Int32) (m21 : Int32) (m22 : Int32) (th : Int32) (b1 : Nat) (bf : Nat → Int32) : Met l yX15_keep usX15_keep ({ frames := 5, cells := 1, slots := 10, locals := 107 }) (va_Pc [.ref mo, .ref b1] (fun U => U.heap.size = sz ∧ va_P (dC, dI) vwCl [(mo, .inr (22, [.int th, .ref b1, .ref m2, .ref m3, .ref m4, .int m5, .ref m6, .ref m7, .ref m8, .ref m9, .ref m10, .int m11, .null, .int m13, .int m14, .ref m15, .ref m16, .ref m17, .ref m18, .ref m19, .int m20, .int m21, .int m22])), (m3, .inr (6, [.int (nI 0), .ref z0, .int (nI 0)])), wa b1 cI 199 bf] U.heap ∧ va_K (dC, dI) vwCl (ty0 cI cO) U ∧ va_D (fun _ => True) [(mo, .inr (22, [.int th, .ref b1, .ref m2, .ref m3, .ref m4, .int m5, .ref m6, .ref m7, .ref m8, .ref m9, .ref m10, .int m11, .null, .int m13, .int m14, .ref m15, .ref m16, .ref m17, .ref m18, .ref m19, .int m20, .int m21, .int m22])), (m3, .inr (6, [.int (nI 0), .ref z0, .int (nI 0)])), wa b1 cI 199 bf] ∧ uz z0 (va_A [(mo, .inr (22, [.int th, .ref b1, .ref m2, .ref m3, .ref m4, .int m5, .ref m6, .ref m7, .ref m8, .ref m9, .ref m10, .int m11, .null, .int m13, .int m14, .ref m15, .ref m16, .ref m17, .ref m18, .ref m19, .int m20, .int m21, .int m22])), (m3, .inr (6, [.int (nI 0), .ref z0, .int (nI 0)])), wa b1 cI 199 bf] sz) U)) (va_Qi (fun (r : Int32) (_ : Unit) => True) (fun _ t => ∃ (mc2 : Int32), ∃ (ed2 : Nat), ∃ (fq2 : Nat → Option Nat), (fq2 0 = some b1) ∧ va_P (dC, dI) vwCl [(mo, .inr (22, [.int th, .ref b1, .ref m2, .ref m3, .ref m4, .int m5, .ref m6, .ref m7, .ref m8, .ref m9, .ref m10, .int m11, .null, .int m13, .int m14, .ref m15, .ref m16, .ref m17, .ref m18, .ref m19, .int m20, .int m21, .int m22])), (m3, .inr (6, [.int mc2, .ref ed2, .int (nI 1)])), wq ed2 cO 10 fq2, wa b1 cI 199 bf] t.heap ∧ va_K (dC, dI) vwCl (ty0 cI cO) t ∧ va_D (va_A [(mo, .inr (22, [.int th, .ref b1, .ref m2, .ref m3, .ref m4, .int m5, .ref m6, .ref m7, .ref m8, .ref m9, .ref m10, .int m11, .null, .int m13, .int m14, .ref m15, .ref m16, .ref m17, .ref m18, .ref m19, .int m20, .int m21, .int m22])), (m3, .inr (6, [.int (nI 0), .ref z0, .int (nI 0)])), wa b1 cI 199 bf] sz) [(mo, .inr (22, [.int th, .ref b1, .ref m2, .ref m3, .ref m4, .int m5, .ref m6, .ref m7, .ref m8, .ref m9, .ref m10, .int m11, .null, .int m13, .int m14, .ref m15, .ref m16, .ref m17, .ref m18, .ref m19, .int m20, .int m21, .int m22])), (m3, .inr (6, [.int mc2, .ref ed2, .int (nI 1)])), wq ed2 cO 10 fq2, wa b1 cI 199 bf]) (va_A [(mo, .inr (22, [.int th, .ref b1, .ref m2, .ref m3, .ref m4, .int m5, .ref m6, .ref m7, .ref m8, .ref m9, .ref m10, .int m11, .null, .int m13, .int m14, .ref m15, .ref m16, .ref m17, .ref m18, .ref m19, .int m20, .int m21, .int m22])), (m3, .inr (6, [.int (nI 0), .ref z0, .int (nI 0)])), wa b1 cI 199 bf] sz)) 1 10 (va_A [(mo, .inr (22, [.int th, .ref b1, .ref m2, .ref m3, .ref m4, .int m5, .ref m6, .ref m7, .ref m8, .ref m9, .ref m10, .int m11, .null, .int m13, .int m14, .ref m15, .ref m16, .ref m17, .ref m18, .ref m19, .int m20, .int m21, .int m22])), (m3, .inr (6, [.int (nI 0), .ref z0, .int (nI 0)])), wa b1 cI 199 bf] sz) := by
  refine Met.ofW (cc := cX15_keep) (maxL := 3) (ret := (some .int)) (by decide) rfl ?_
  intro p e s m args below meth c s₁ B hml hv
  obtain ⟨rfl, hsz, hP, hK, hD0, hZ⟩ := hv
  have hx := B.exec
  have hb := B.bytes
  have hr := B.returns
  have hts := atoms_spec (ws := usX15_keep) B.pre
  have hown : s.vm.findClass RX15 = some m.cls := findClass_of_methodNamed B.named
  have hlocks := B.notSynchronized
  subst hsz
  have hD := hD0.self (sz := s.heap.size)
  generalize hAe : va_A [(mo, .inr (22, [.int th, .ref b1, .ref m2, .ref m3, .ref m4, .int m5, .ref m6, .ref m7, .ref m8, .ref m9, .ref m10, .int m11, .null, .int m13, .int m14, .ref m15, .ref m16, .ref m17, .ref m18, .ref m19, .int m20, .int m21, .int m22])), (m3, .inr (6, [.int (nI 0), .ref z0, .int (nI 0)])), wa b1 cI 199 bf] s.heap.size = A at hD hZ ⊢
  have hA : ∀ q : Nat, s.heap.size ≤ q → A q := fun q h => by rw [← hAe]; exact Or.inr h
  have hS : va_S A s.heap s.heap [] := va_S.rf
  obtain ⟨hZs, ⟨fz, hZt⟩, hZo, hZr, hZi, hZc⟩ := id hZ
  have hl := lv_entry ([.ref mo, .ref b1]) (n := 3) (Nat.le_of_ble_eq_true rfl)
  rw [lg_entry_eq]
  generalize (lg_sl ([.ref mo, .ref b1]) ++ List.replicate (3 - (lg_sl ([.ref mo, .ref b1])).length) Slot.unset).toArray = ls at hl ⊢
  have hl : lv_has ls 3 [(0, .ref mo), (1, .ref b1)] := hl
  refine lv_aload_n hx hb dX15_keep_0 rfl (lv_at hl 0 rfl) ?_
  refine va_get (D := (dC, dI)) (ci := 22) (v := .ref m3) (C := RX15) (T := TX15) (N := 23) hx hb hts inX15_keep_RX15 hown hK hP 0 rfl rfl 3 (by decide) (hts (.fieldLink RX15 22 "PatchferryModel" "files" "Ljava/util/ArrayList;") (by decide +kernel)) (fun _ h9 => h9) rfl dX15_keep_1 ?_
  refine lv_aload_n hx hb dX15_keep_4 rfl (lv_at hl 1 rfl) ?_
  have hPc : va_P (dC, dI) vwCl [(m3, .inr (6, [.int (nI 0), .ref z0, .int (nI 0)])), wa b1 cI 199 bf] _ := hP.sub [1, 2] rfl
  have hDc : va_D _ [(m3, .inr (6, [.int (nI 0), .ref z0, .int (nI 0)])), wa b1 cI 199 bf] := hD.sub [1, 2] (by decide) rfl
  have hFc := va_free (wc := [(m3, .inr (6, [.int (nI 0), .ref z0, .int (nI 0)])), wa b1 cI 199 bf]) hD hS hA [1, 2] rfl
  refine va_calli (va_runV (As := [.ref b1]) (rest := []) ⟨hx, hb, hml, hown, hts⟩ (c_aladdi l dC dI cI cO z0 s.heap.size m3 (nI 0) b1 199 bf) (cwV 1 hts ugX15_keep_Jx4a65c_add_9ea2d rfl rfl rfl (by decide +kernel) ⟨(by first | exact Nat.le_of_ble_eq_true rfl | omega | (dsimp only [headSpec]; omega) | (simp only [headSpec]; omega) | omega), (by first | exact Nat.le_of_ble_eq_true rfl | omega | (dsimp only [headSpec]; omega) | (simp only [headSpec]; omega) | omega)⟩) ⟨fun a U g mk q => by obtain ⟨q0, q1, qP, qK, qD, qZ⟩ := q; exact ⟨q0, q1, qP, va_K.moved (u := U) (U := U.calling g mk a) (Vm.Alike.refl U.vm) qK, qD, qZ.moved (Vm.Alike.refl U.vm) rfl⟩, va_recv hK hP (ci := 6) (q0 := 1) rfl rfl, fun U hU hW => ⟨rfl, by rw [hU], by rw [hU]; exact hPc, va_K.moved hW.alike hK, hDc.weaken (fun _ _ _ _ => trivial), uz_call hZ hS hFc hU hW.alike⟩⟩ rfl rfl hl.1 rfl (lv_room (Nat.le_of_ble_eq_true rfl)) dX15_keep_5 ⟨(by first | exact Nat.le_of_ble_eq_true rfl | omega | (dsimp only [headSpec]; omega) | (simp only [headSpec]; omega) | omega), (by first | exact Nat.le_of_ble_eq_true rfl | omega | (dsimp only [headSpec]; omega) | (simp only [headSpec]; omega) | omega)⟩) hS (fun q _ h => hFc q h) hFc (fun r1 u t H locs ht hvm hw hB hz1 hk1 hS => ?_)
  obtain ⟨mc2, ed2, fq2, hfq2, hP1, hK1, hD1⟩ := hB
  rw [ht] at hP1
  obtain ⟨hP, hD⟩ := va_join (wr := [(mo, .inr (22, [.int th, .ref b1, .ref m2, .ref m3, .ref m4, .int m5, .ref m6, .ref m7, .ref m8, .ref m9, .ref m10, .int m11, .null, .int m13, .int m14, .ref m15, .ref m16, .ref m17, .ref m18, .ref m19, .int m20, .int m21, .int m22]))]) (w1 := [(m3, .inr (6, [.int mc2, .ref ed2, .int (nI 1)])), wa b1 cI 199 bf, wq ed2 cO 10 fq2]) hP hD [1, 2] [0] rfl rfl (by decide) (by decide) hk1 hFc hP1 hD1
  have hP : va_P (dC, dI) vwCl [(mo, .inr (22, [.int th, .ref b1, .ref m2, .ref m3, .ref m4, .int m5, .ref m6, .ref m7, .ref m8, .ref m9, .ref m10, .int m11, .null, .int m13, .int m14, .ref m15, .ref m16, .ref m17, .ref m18, .ref m19, .int m20, .int m21, .int m22])), (m3, .inr (6, [.int mc2, .ref ed2, .int (nI 1)])), wa b1 cI 199 bf, wq ed2 cO 10 fq2] H := hP
  have hD : va_D A [(mo, .inr (22, [.int th, .ref b1, .ref m2, .ref m3, .ref m4, .int m5, .ref m6, .ref m7, .ref m8, .ref m9, .ref m10, .int m11, .null, .int m13, .int m14, .ref m15, .ref m16, .ref m17, .ref m18, .ref m19, .int m20, .int m21, .int m22])), (m3, .inr (6, [.int mc2, .ref ed2, .int (nI 1)])), wa b1 cI 199 bf, wq ed2 cO 10 fq2] := hD
  refine W.widen (k := 1) (n := 10) (by first | exact Nat.le_of_ble_eq_true rfl | omega | (dsimp only [headSpec]; omega) | (simp only [headSpec]; omega) | omega) (by first | exact Nat.le_of_ble_eq_true rfl | omega | (dsimp only [headSpec]; omega) | (simp only [headSpec]; omega) | omega) ?_
  refine lv_istore_n (lv' := [(2, .int r1), (0, .ref mo), (1, .ref b1)]) hx hb dX15_keep_8 rfl hl (by decide) rfl (fun ls hl => ?_)
  refine lv_aload_n hx hb dX15_keep_9 rfl (lv_at hl 1 rfl) ?_
  refine va_get (D := (dC, dI)) (ci := 22) (v := .ref m3) (C := RX15) (T := TX15) (N := 23) hx hb hts inX15_keep_RX15 hown hK hP 0 rfl rfl 3 (by decide) (hts (.fieldLink RX15 22 "PatchferryModel" "files" "Ljava/util/ArrayList;") (by decide +kernel)) (fun _ h9 => h9) rfl dX15_keep_10 ?_
  have hPc : va_P (dC, dI) vwCl [(m3, .inr (6, [.int mc2, .ref ed2, .int (nI 1)]))] _ := hP.sub [1] rfl
  refine uc_i (va_runV (As := []) (rest := []) ⟨hx, hb, hml, hown, hts⟩ (p_alsize l dC dI cI cO m3 mc2 ed2 1) (cwV 0 hts ugX15_keep_Jx4a65c_size_8abf5 rfl rfl rfl (by decide +kernel) ⟨(by first | exact Nat.le_of_ble_eq_true rfl | omega | (dsimp only [headSpec]; omega) | (simp only [headSpec]; omega) | omega), (by first | exact Nat.le_of_ble_eq_true rfl | omega | (dsimp only [headSpec]; omega) | (simp only [headSpec]; omega) | omega)⟩) ⟨fun a U g mk q => by obtain ⟨q0, qP, qK⟩ := q; exact ⟨q0, qP, va_K.moved (u := U) (U := U.calling g mk a) (Vm.Alike.refl U.vm) qK⟩, va_recv hK hP (ci := 6) (q0 := 1) rfl rfl, fun U hU hW => ⟨rfl, by rw [hU]; exact hPc, va_K.moved hW.alike hK⟩⟩ rfl rfl hl.1 rfl (lv_room (Nat.le_of_ble_eq_true rfl)) dX15_keep_13 ⟨(by first | exact Nat.le_of_ble_eq_true rfl | omega | (dsimp only [headSpec]; omega) | (simp only [headSpec]; omega) | omega), (by first | exact Nat.le_of_ble_eq_true rfl | omega | (dsimp only [headSpec]; omega) | (simp only [headSpec]; omega) | omega)⟩) (fun r2 er2 => ?_)
  refine lv_iconst (v := nI 1) hx hb dX15_keep_16 (by decide) ?_
  refine lv_isub hx hb dX15_keep_17 ?_
  refine lv_topi (fun y_1 ey_1 => ?_)
  have hPe : va_P (dC, dI) vwCl [(mo, .inr (22, [.int th, .ref b1, .ref m2, .ref m3, .ref m4, .int m5, .ref m6, .ref m7, .ref m8, .ref m9, .ref m10, .int m11, .null, .int m13, .int m14, .ref m15, .ref m16, .ref m17, .ref m18, .ref m19, .int m20, .int m21, .int m22])), (m3, .inr (6, [.int mc2, .ref ed2, .int (nI 1)])), wq ed2 cO 10 fq2, wa b1 cI 199 bf] _ := hP.sub [0, 1, 3, 2] rfl
  have hDe : va_D A [(mo, .inr (22, [.int th, .ref b1, .ref m2, .ref m3, .ref m4, .int m5, .ref m6, .ref m7, .ref m8, .ref m9, .ref m10, .int m11, .null, .int m13, .int m14, .ref m15, .ref m16, .ref m17, .ref m18, .ref m19, .int m20, .int m21, .int m22])), (m3, .inr (6, [.int mc2, .ref ed2, .int (nI 1)])), wq ed2 cO 10 fq2, wa b1 cI 199 bf] := hD.sub [0, 1, 3, 2] (by decide) rfl
  refine W.widen (k := 1) (n := 10) (by first | exact Nat.le_of_ble_eq_true rfl | omega | (dsimp only [headSpec]; omega) | (simp only [headSpec]; omega) | omega) (by first | exact Nat.le_of_ble_eq_true rfl | omega | (dsimp only [headSpec]; omega) | (simp only [headSpec]; omega) | omega) ?_
  exact W.iret (v := y_1) hx hb hr (fun t ht hW => ⟨⟨_, (), rfl, trivial, _, _, _, hfq2, by rw [ht]; exact hPe, va_K.moved hW.alike hK, hDe⟩, hS.F ht⟩) hS.2.2 dX15_keep_18
set_option maxHeartbeats 4000000 in
set_option maxRecDepth 100000 in
theorem c_mfile (l : Launch) (dC : Nat → ClassId) (dI : Nat → Nat → Nat) (cI cO : ClassId) (z0 : Nat) (sz : Nat) (mo : Nat) (m2 : Nat) (m3 : Nat) (m4 : Nat) (m5 : Int32) (m6 : Nat) (m7 : Nat) (m8 : Nat) (m9 : Nat) (m10 : Nat) (m11 : Int32) (m13 : Int32) (m14 : Int32) (m15 : Nat) (m16 : Nat) (m17 : Nat) (m18 : Nat) (m19 : Nat) (m20 : Int32) (m21 : Int32) (m22 : Int32) (th : Int32) (b1 : Nat) (bf : Nat → Int32) : Met l yX15_file usX15_file ({ frames := 6, cells := 2, slots := 10, locals := 129 }) (va_Pc [.ref mo] (fun U => U.heap.size = sz ∧ va_P (dC, dI) vwCl [(mo, .inr (22, [.int th, .ref b1, .ref m2, .ref m3, .ref m4, .int m5, .ref m6, .ref m7, .ref m8, .ref m9, .ref m10, .int m11, .null, .int m13, .int m14, .ref m15, .ref m16, .ref m17, .ref m18, .ref m19, .int m20, .int m21, .int m22])), (m3, .inr (6, [.int (nI 0), .ref z0, .int (nI 0)])), wa b1 cI 199 bf] U.heap ∧ va_K (dC, dI) vwCl (ty0 cI cO) U ∧ va_D (fun _ => True) [(mo, .inr (22, [.int th, .ref b1, .ref m2, .ref m3, .ref m4, .int m5, .ref m6, .ref m7, .ref m8, .ref m9, .ref m10, .int m11, .null, .int m13, .int m14, .ref m15, .ref m16, .ref m17, .ref m18, .ref m19, .int m20, .int m21, .int m22])), (m3, .inr (6, [.int (nI 0), .ref z0, .int (nI 0)])), wa b1 cI 199 bf] ∧ uz z0 (va_A [(mo, .inr (22, [.int th, .ref b1, .ref m2, .ref m3, .ref m4, .int m5, .ref m6, .ref m7, .ref m8, .ref m9, .ref m10, .int m11, .null, .int m13, .int m14, .ref m15, .ref m16, .ref m17, .ref m18, .ref m19, .int m20, .int m21, .int m22])), (m3, .inr (6, [.int (nI 0), .ref z0, .int (nI 0)])), wa b1 cI 199 bf] sz) U)) (va_Qi (fun (r : Int32) (_ : Unit) => True) (fun _ t => ∃ (mc2 : Int32), ∃ (ed2 : Nat), ∃ (fq2 : Nat → Option Nat), ∃ (b3 : Nat), (fq2 0 = some b1) ∧ va_P (dC, dI) vwCl [(mo, .inr (22, [.int (nI 0), .ref b3, .ref m2, .ref m3, .ref m4, .int m5, .ref m6, .ref m7, .ref m8, .ref m9, .ref m10, .int m11, .null, .int m13, .int m14, .ref m15, .ref m16, .ref m17, .ref m18, .ref m19, .int m20, .int m21, .int m22])), (m3, .inr (6, [.int mc2, .ref ed2, .int (nI 1)])), wq ed2 cO 10 fq2, wa b1 cI 199 bf] t.heap ∧ va_K (dC, dI) vwCl (ty0 cI cO) t ∧ va_D (va_A [(mo, .inr (22, [.int th, .ref b1, .ref m2, .ref m3, .ref m4, .int m5, .ref m6, .ref m7, .ref m8, .ref m9, .ref m10, .int m11, .null, .int m13, .int m14, .ref m15, .ref m16, .ref m17, .ref m18, .ref m19, .int m20, .int m21, .int m22])), (m3, .inr (6, [.int (nI 0), .ref z0, .int (nI 0)])), wa b1 cI 199 bf] sz) [(mo, .inr (22, [.int (nI 0), .ref b3, .ref m2, .ref m3, .ref m4, .int m5, .ref m6, .ref m7, .ref m8, .ref m9, .ref m10, .int m11, .null, .int m13, .int m14, .ref m15, .ref m16, .ref m17, .ref m18, .ref m19, .int m20, .int m21, .int m22])), (m3, .inr (6, [.int mc2, .ref ed2, .int (nI 1)])), wq ed2 cO 10 fq2, wa b1 cI 199 bf]) (va_A [(mo, .inr (22, [.int th, .ref b1, .ref m2, .ref m3, .ref m4, .int m5, .ref m6, .ref m7, .ref m8, .ref m9, .ref m10, .int m11, .null, .int m13, .int m14, .ref m15, .ref m16, .ref m17, .ref m18, .ref m19, .int m20, .int m21, .int m22])), (m3, .inr (6, [.int (nI 0), .ref z0, .int (nI 0)])), wa b1 cI 199 bf] sz)) 2 10 (va_A [(mo, .inr (22, [.int th, .ref b1, .ref m2, .ref m3, .ref m4, .int m5, .ref m6, .ref m7, .ref m8, .ref m9, .ref m10, .int m11, .null, .int m13, .int m14, .ref m15, .ref m16, .ref m17, .ref m18, .ref m19, .int m20, .int m21, .int m22])), (m3, .inr (6, [.int (nI 0), .ref z0, .int (nI 0)])), wa b1 cI 199 bf] sz) := by
  refine Met.ofW (cc := cX15_file) (maxL := 2) (ret := (some .int)) (by decide) rfl ?_
  intro p e s m args below meth c s₁ B hml hv
  obtain ⟨rfl, hsz, hP, hK, hD0, hZ⟩ := hv
  have hx := B.exec
  have hb := B.bytes
  have hr := B.returns
  have hts := atoms_spec (ws := usX15_file) B.pre
  have hown : s.vm.findClass RX15 = some m.cls := findClass_of_methodNamed B.named
  have hlocks := B.notSynchronized
  subst hsz
  have hD := hD0.self (sz := s.heap.size)
  generalize hAe : va_A [(mo, .inr (22, [.int th, .ref b1, .ref m2, .ref m3, .ref m4, .int m5, .ref m6, .ref m7, .ref m8, .ref m9, .ref m10, .int m11, .null, .int m13, .int m14, .ref m15, .ref m16, .ref m17, .ref m18, .ref m19, .int m20, .int m21, .int m22])), (m3, .inr (6, [.int (nI 0), .ref z0, .int (nI 0)])), wa b1 cI 199 bf] s.heap.size = A at hD hZ ⊢
  have hA : ∀ q : Nat, s.heap.size ≤ q → A q := fun q h => by rw [← hAe]; exact Or.inr h
  have hS : va_S A s.heap s.heap [] := va_S.rf
  obtain ⟨hZs, ⟨fz, hZt⟩, hZo, hZr, hZi, hZc⟩ := id hZ
  have hl := lv_entry ([.ref mo]) (n := 2) (Nat.le_of_ble_eq_true rfl)
  rw [lg_entry_eq]
  generalize (lg_sl ([.ref mo]) ++ List.replicate (2 - (lg_sl ([.ref mo])).length) Slot.unset).toArray = ls at hl ⊢
  have hl : lv_has ls 2 [(0, .ref mo)] := hl
  refine lv_aload_n hx hb dX15_file_0 rfl (lv_at hl 0 rfl) ?_
  refine lv_aload_n hx hb dX15_file_1 rfl (lv_at hl 0 rfl) ?_
  refine va_get (D := (dC, dI)) (ci := 22) (v := .ref m3) (C := RX15) (T := TX15) (N := 23) hx hb hts inX15_file_RX15 hown hK hP 0 rfl rfl 3 (by decide) (hts (.fieldLink RX15 22 "PatchferryModel" "files" "Ljava/util/ArrayList;") (by decide +kernel)) (fun _ h9 => h9) rfl dX15_file_2 ?_
  have hPc : va_P (dC, dI) vwCl [(m3, .inr (6, [.int (nI 0), .ref z0, .int (nI 0)]))] _ := hP.sub [1] rfl
  refine uc_i (va_runV (As := []) (rest := [.ref mo]) ⟨hx, hb, hml, hown, hts⟩ (p_alsize l dC dI cI cO m3 (nI 0) z0 0) (cwV 0 hts ugX15_file_Jx4a65c_size_8abf5 rfl rfl rfl (by decide +kernel) ⟨(by first | exact Nat.le_of_ble_eq_true rfl | omega | (dsimp only [headSpec]; omega) | (simp only [headSpec]; omega) | omega), (by first | exact Nat.le_of_ble_eq_true rfl | omega | (dsimp only [headSpec]; omega) | (simp only [headSpec]; omega) | omega)⟩) ⟨fun a U g mk q => by obtain ⟨q0, qP, qK⟩ := q; exact ⟨q0, qP, va_K.moved (u := U) (U := U.calling g mk a) (Vm.Alike.refl U.vm) qK⟩, va_recv hK hP (ci := 6) (q0 := 1) rfl rfl, fun U hU hW => ⟨rfl, by rw [hU]; exact hPc, va_K.moved hW.alike hK⟩⟩ rfl rfl hl.1 rfl (lv_room (Nat.le_of_ble_eq_true rfl)) dX15_file_5 ⟨(by first | exact Nat.le_of_ble_eq_true rfl | omega | (dsimp only [headSpec]; omega) | (simp only [headSpec]; omega) | omega), (by first | exact Nat.le_of_ble_eq_true rfl | omega | (dsimp only [headSpec]; omega) | (simp only [headSpec]; omega) | omega)⟩) (fun r1 er1 => ?_)
  subst er1
  refine lv_bipush (v := nI 24) hx hb dX15_file_8 (by decide) ?_
  refine lv_icmp_ne (tgt := 17) hx hb dX15_file_10 (by decide) (fun hb1 => ?_) (fun hb1 => absurd hb1 (by decide))
  refine lv_iconst (v := nI 0) hx hb dX15_file_17 (by decide) ?_
  have hPc : va_P (dC, dI) vwCl [(mo, .inr (22, [.int th, .ref b1, .ref m2, .ref m3, .ref m4, .int m5, .ref m6, .ref m7, .ref m8, .ref m9, .ref m10, .int m11, .null, .int m13, .int m14, .ref m15, .ref m16, .ref m17, .ref m18, .ref m19, .int m20, .int m21, .int m22]))] _ := hP.sub [0] rfl
  have hDc : va_D _ [(mo, .inr (22, [.int th, .ref b1, .ref m2, .ref m3, .ref m4, .int m5, .ref m6, .ref m7, .ref m8, .ref m9, .ref m10, .int m11, .null, .int m13, .int m14, .ref m15, .ref m16, .ref m17, .ref m18, .ref m19, .int m20, .int m21, .int m22]))] := hD.sub [0] (by decide) rfl
  have hFc := va_free (wc := [(mo, .inr (22, [.int th, .ref b1, .ref m2, .ref m3, .ref m4, .int m5, .ref m6, .ref m7, .ref m8, .ref m9, .ref m10, .int m11, .null, .int m13, .int m14, .ref m15, .ref m16, .ref m17, .ref m18, .ref m19, .int m20, .int m21, .int m22]))]) hD hS hA [0] rfl
  refine va_calli (va_runV (As := [.int (nI 0)]) (rest := []) ⟨hx, hb, hml, hown, hts⟩ (c_fails l dC dI cI cO s.heap.size mo m2 m3 m4 m5 m6 m7 m8 m9 m10 m11 m13 m14 m15 m16 m17 m18 m19 m20 m21 m22 th b1) (cwV 1 hts ugX15_file_X15_fails rfl rfl rfl (by decide +kernel) ⟨(by first | exact Nat.le_of_ble_eq_true rfl | omega | (dsimp only [headSpec]; omega) | (simp only [headSpec]; omega) | omega), (by first | exact Nat.le_of_ble_eq_true rfl | omega | (dsimp only [headSpec]; omega) | (simp only [headSpec]; omega) | omega)⟩) ⟨fun a U g mk q => by obtain ⟨q0, q1, qP, qK, qD⟩ := q; exact ⟨q0, q1, qP, va_K.moved (u := U) (U := U.calling g mk a) (Vm.Alike.refl U.vm) qK, qD⟩, va_recv hK hP (ci := 22) (q0 := 0) rfl rfl, fun U hU hW => ⟨rfl, by rw [hU], by rw [hU]; exact hPc, va_K.moved hW.alike hK, hDc.weaken (fun _ _ _ _ => trivial)⟩⟩ rfl rfl hl.1 rfl (lv_room (Nat.le_of_ble_eq_true rfl)) dX15_file_18 ⟨(by first | exact Nat.le_of_ble_eq_true rfl | omega | (dsimp only [headSpec]; omega) | (simp only [headSpec]; omega) | omega), (by first | exact Nat.le_of_ble_eq_true rfl | omega | (dsimp only [headSpec]; omega) | (simp only [headSpec]; omega) | omega)⟩) hS (fun q _ h => hFc q h) hFc (fun r2 u t H locs ht hvm hw hB hz1 hk1 hS => ?_)
  obtain ⟨hP1, hK1, hD1⟩ := hB
  rw [ht] at hP1
  obtain ⟨hP, hD⟩ := va_join (wr := [(m3, .inr (6, [.int (nI 0), .ref z0, .int (nI 0)])), wa b1 cI 199 bf]) (w1 := [(mo, .inr (22, [.int (nI 0), .ref b1, .ref m2, .ref m3, .ref m4, .int m5, .ref m6, .ref m7, .ref m8, .ref m9, .ref m10, .int m11, .null, .int m13, .int m14, .ref m15, .ref m16, .ref m17, .ref m18, .ref m19, .int m20, .int m21, .int m22]))]) hP hD [0] [1, 2] rfl rfl (by decide) (by decide) hk1 hFc hP1 hD1
  have hP : va_P (dC, dI) vwCl [(m3, .inr (6, [.int (nI 0), .ref z0, .int (nI 0)])), wa b1 cI 199 bf, (mo, .inr (22, [.int (nI 0), .ref b1, .ref m2, .ref m3, .ref m4, .int m5, .ref m6, .ref m7, .ref m8, .ref m9, .ref m10, .int m11, .null, .int m13, .int m14, .ref m15, .ref m16, .ref m17, .ref m18, .ref m19, .int m20, .int m21, .int m22]))] H := hP
  have hD : va_D A [(m3, .inr (6, [.int (nI 0), .ref z0, .int (nI 0)])), wa b1 cI 199 bf, (mo, .inr (22, [.int (nI 0), .ref b1, .ref m2, .ref m3, .ref m4, .int m5, .ref m6, .ref m7, .ref m8, .ref m9, .ref m10, .int m11, .null, .int m13, .int m14, .ref m15, .ref m16, .ref m17, .ref m18, .ref m19, .int m20, .int m21, .int m22]))] := hD
  subst hw
  refine lv_if_eq (tgt := 26) hx hb dX15_file_21 (by decide) (fun hb2 => ?_) (fun hb2 => absurd rfl hb2)
  refine lv_aload_n hx hb dX15_file_26 rfl (lv_at hl 0 rfl) ?_
  refine lv_aload_n hx hb dX15_file_27 rfl (lv_at hl 0 rfl) ?_
  refine va_get (D := (dC, dI)) (ci := 22) (v := .ref b1) (C := RX15) (T := TX15) (N := 23) hx hb hts inX15_file_RX15 hown hK hP 2 rfl rfl 1 (by decide) (hts (.fieldLink RX15 7 "PatchferryModel" "buffer" "[I") (by decide +kernel)) (fun _ h9 => h9) rfl dX15_file_28 ?_
  have hPc : va_P (dC, dI) vwCl [(mo, .inr (22, [.int (nI 0), .ref b1, .ref m2, .ref m3, .ref m4, .int m5, .ref m6, .ref m7, .ref m8, .ref m9, .ref m10, .int m11, .null, .int m13, .int m14, .ref m15, .ref m16, .ref m17, .ref m18, .ref m19, .int m20, .int m21, .int m22])), (m3, .inr (6, [.int (nI 0), .ref z0, .int (nI 0)])), wa b1 cI 199 bf] _ := hP.sub [2, 0, 1] rfl
  have hDc : va_D _ [(mo, .inr (22, [.int (nI 0), .ref b1, .ref m2, .ref m3, .ref m4, .int m5, .ref m6, .ref m7, .ref m8, .ref m9, .ref m10, .int m11, .null, .int m13, .int m14, .ref m15, .ref m16, .ref m17, .ref m18, .ref m19, .int m20, .int m21, .int m22])), (m3, .inr (6, [.int (nI 0), .ref z0, .int (nI 0)])), wa b1 cI 199 bf] := hD.sub [2, 0, 1] (by decide) rfl
  have hFc := va_free (wc := [(mo, .inr (22, [.int (nI 0), .ref b1, .ref m2, .ref m3, .ref m4, .int m5, .ref m6, .ref m7, .ref m8, .ref m9, .ref m10, .int m11, .null, .int m13, .int m14, .ref m15, .ref m16, .ref m17, .ref m18, .ref m19, .int m20, .int m21, .int m22])), (m3, .inr (6, [.int (nI 0), .ref z0, .int (nI 0)])), wa b1 cI 199 bf]) hD hS hA [2, 0, 1] rfl
  refine va_calli (va_runV (As := [.ref b1]) (rest := []) ⟨hx, hb, hml, hown, hts⟩ (c_mkeep l dC dI cI cO z0 H.size mo m2 m3 m4 m5 m6 m7 m8 m9 m10 m11 m13 m14 m15 m16 m17 m18 m19 m20 m21 m22 (nI 0) b1 bf) (cwV 1 hts ugX15_file_X15_keep rfl rfl rfl (by decide +kernel) ⟨(by first | exact Nat.le_of_ble_eq_true rfl | omega | (dsimp only [headSpec]; omega) | (simp only [headSpec]; omega) | omega), (by first | exact Nat.le_of_ble_eq_true rfl | omega | (dsimp only [headSpec]; omega) | (simp only [headSpec]; omega) | omega)⟩) ⟨fun a U g mk q => by obtain ⟨q0, q1, qP, qK, qD, qZ⟩ := q; exact ⟨q0, q1, qP, va_K.moved (u := U) (U := U.calling g mk a) (Vm.Alike.refl U.vm) qK, qD, qZ.moved (Vm.Alike.refl U.vm) rfl⟩, va_recv hK hP (ci := 22) (q0 := 2) rfl rfl, fun U hU hW => ⟨rfl, by rw [hU], by rw [hU]; exact hPc, va_K.moved hW.alike hK, hDc.weaken (fun _ _ _ _ => trivial), uz_call hZ hS hFc hU hW.alike⟩⟩ rfl rfl hl.1 rfl (lv_room (Nat.le_of_ble_eq_true rfl)) dX15_file_31 ⟨(by first | exact Nat.le_of_ble_eq_true rfl | omega | (dsimp only [headSpec]; omega) | (simp only [headSpec]; omega) | omega), (by first | exact Nat.le_of_ble_eq_true rfl | omega | (dsimp only [headSpec]; omega) | (simp only [headSpec]; omega) | omega)⟩) hS (fun q _ h => hFc q h) hFc (fun r3 u t H locs ht hvm hw hB hz1 hk1 hS => ?_)
  obtain ⟨mc2, ed2, fq2, hfq2, hP1, hK1, hD1⟩ := hB
  rw [ht] at hP1
  obtain ⟨hP, hD⟩ := va_join (wr := []) (w1 := [(mo, .inr (22, [.int (nI 0), .ref b1, .ref m2, .ref m3, .ref m4, .int m5, .ref m6, .ref m7, .ref m8, .ref m9, .ref m10, .int m11, .null, .int m13, .int m14, .ref m15, .ref m16, .ref m17, .ref m18, .ref m19, .int m20, .int m21, .int m22])), (m3, .inr (6, [.int mc2, .ref ed2, .int (nI 1)])), wq ed2 cO 10 fq2, wa b1 cI 199 bf]) hP hD [2, 0, 1] [] rfl rfl (by decide) (by decide) hk1 hFc hP1 hD1
  have hP : va_P (dC, dI) vwCl [(mo, .inr (22, [.int (nI 0), .ref b1, .ref m2, .ref m3, .ref m4, .int m5, .ref m6, .ref m7, .ref m8, .ref m9, .ref m10, .int m11, .null, .int m13, .int m14, .ref m15, .ref m16, .ref m17, .ref m18, .ref m19, .int m20, .int m21, .int m22])), (m3, .inr (6, [.int mc2, .ref ed2, .int (nI 1)])), wq ed2 cO 10 fq2, wa b1 cI 199 bf] H := hP
  have hD : va_D A [(mo, .inr (22, [.int (nI 0), .ref b1, .ref m2, .ref m3, .ref m4, .int m5, .ref m6, .ref m7, .ref m8, .ref m9, .ref m10, .int m11, .null, .int m13, .int m14, .ref m15, .ref m16, .ref m17, .ref m18, .ref m19, .int m20, .int m21, .int m22])), (m3, .inr (6, [.int mc2, .ref ed2, .int (nI 1)])), wq ed2 cO 10 fq2, wa b1 cI 199 bf] := hD
  refine W.widen (k := 1) (n := 10) (by first | exact Nat.le_of_ble_eq_true rfl | omega | (dsimp only [headSpec]; omega) | (simp only [headSpec]; omega) | omega) (by first | exact Nat.le_of_ble_eq_true rfl | omega | (dsimp only [headSpec]; omega) | (simp only [headSpec]; omega) | omega) ?_
  refine lv_istore_n (lv' := [(1, .int r3), (0, .ref mo)]) hx hb dX15_file_34 rfl hl (by decide) rfl (fun ls hl => ?_)
  refine lv_aload_n hx hb dX15_file_35 rfl (lv_at hl 1 rfl) ?_
  refine lv_iconst (v := nI 0) hx hb dX15_file_36 (by decide) ?_
  refine va_newa (D := (dC, dI)) (atype := .int) (N' := 0) (a0 := (0, .inl (fun _ => 0))) hx hb (hts (.arrayClass .int) (by decide +kernel)) rfl hK hP hD hS hA (fun _ => rfl) (by decide) (by decide) (by decide) (by first | exact Nat.le_of_ble_eq_true rfl | omega | (dsimp only [headSpec]; omega) | (simp only [headSpec]; omega) | omega) (by first | exact Nat.le_of_ble_eq_true rfl | omega | (dsimp only [headSpec]; omega) | (simp only [headSpec]; omega) | omega) dX15_file_37 (fun q_1 cQ_2 H hK2 hP hD hS => ?_)
  obtain rfl := uc_eq hK2 0 2 rfl rfl
  have hP : va_P (dC, dI) vwCl [(mo, .inr (22, [.int (nI 0), .ref b1, .ref m2, .ref m3, .ref m4, .int m5, .ref m6, .ref m7, .ref m8, .ref m9, .ref m10, .int m11, .null, .int m13, .int m14, .ref m15, .ref m16, .ref m17, .ref m18, .ref m19, .int m20, .int m21, .int m22])), (m3, .inr (6, [.int mc2, .ref ed2, .int (nI 1)])), wq ed2 cO 10 fq2, wa b1 cI 199 bf, wa q_1 cI 0 (fun _ => 0)] H := hP
  have hD : va_D A [(mo, .inr (22, [.int (nI 0), .ref b1, .ref m2, .ref m3, .ref m4, .int m5, .ref m6, .ref m7, .ref m8, .ref m9, .ref m10, .int m11, .null, .int m13, .int m14, .ref m15, .ref m16, .ref m17, .ref m18, .ref m19, .int m20, .int m21, .int m22])), (m3, .inr (6, [.int mc2, .ref ed2, .int (nI 1)])), wq ed2 cO 10 fq2, wa b1 cI 199 bf, wa q_1 cI 0 (fun _ => 0)] := hD
  refine W.widen (k := 2) (n := 10) (by first | exact Nat.le_of_ble_eq_true rfl | omega | (dsimp only [headSpec]; omega) | (simp only [headSpec]; omega) | omega) (by first | exact Nat.le_of_ble_eq_true rfl | omega | (dsimp only [headSpec]; omega) | (simp only [headSpec]; omega) | omega) ?_
  refine va_put (D := (dC, dI)) (ci := 22) (v := .ref q_1) (ty := .array .int) (C := RX15) (T := TX15) (N := 23) hx hb hts inX15_file_RX15 tyX15 tyX15_ok nmX15 hown hK hP hD hS 0 rfl rfl 1 (by decide) (hts (.fieldLink RX15 7 "PatchferryModel" "buffer" "[I") (by decide +kernel)) (fun _ h9 => h9) rfl (by decide +kernel) rfl rfl (Nat.le_of_ble_eq_true rfl) dX15_file_39 (fun H locs hP hD hS => ?_)
  have hP : va_P (dC, dI) vwCl [(mo, .inr (22, [.int (nI 0), .ref q_1, .ref m2, .ref m3, .ref m4, .int m5, .ref m6, .ref m7, .ref m8, .ref m9, .ref m10, .int m11, .null, .int m13, .int m14, .ref m15, .ref m16, .ref m17, .ref m18, .ref m19, .int m20, .int m21, .int m22])), (m3, .inr (6, [.int mc2, .ref ed2, .int (nI 1)])), wq ed2 cO 10 fq2, wa b1 cI 199 bf, wa q_1 cI 0 (fun _ => 0)] H := hP
  have hD : va_D A [(mo, .inr (22, [.int (nI 0), .ref q_1, .ref m2, .ref m3, .ref m4, .int m5, .ref m6, .ref m7, .ref m8, .ref m9, .ref m10, .int m11, .null, .int m13, .int m14, .ref m15, .ref m16, .ref m17, .ref m18, .ref m19, .int m20, .int m21, .int m22])), (m3, .inr (6, [.int mc2, .ref ed2, .int (nI 1)])), wq ed2 cO 10 fq2, wa b1 cI 199 bf, wa q_1 cI 0 (fun _ => 0)] := hD
  refine lv_iload_n hx hb dX15_file_42 rfl (lv_at hl 0 rfl) ?_
  have hPe : va_P (dC, dI) vwCl [(mo, .inr (22, [.int (nI 0), .ref q_1, .ref m2, .ref m3, .ref m4, .int m5, .ref m6, .ref m7, .ref m8, .ref m9, .ref m10, .int m11, .null, .int m13, .int m14, .ref m15, .ref m16, .ref m17, .ref m18, .ref m19, .int m20, .int m21, .int m22])), (m3, .inr (6, [.int mc2, .ref ed2, .int (nI 1)])), wq ed2 cO 10 fq2, wa b1 cI 199 bf] _ := hP.sub [0, 1, 2, 3] rfl
  have hDe : va_D A [(mo, .inr (22, [.int (nI 0), .ref q_1, .ref m2, .ref m3, .ref m4, .int m5, .ref m6, .ref m7, .ref m8, .ref m9, .ref m10, .int m11, .null, .int m13, .int m14, .ref m15, .ref m16, .ref m17, .ref m18, .ref m19, .int m20, .int m21, .int m22])), (m3, .inr (6, [.int mc2, .ref ed2, .int (nI 1)])), wq ed2 cO 10 fq2, wa b1 cI 199 bf] := hD.sub [0, 1, 2, 3] (by decide) rfl
  refine W.widen (k := 2) (n := 10) (by first | exact Nat.le_of_ble_eq_true rfl | omega | (dsimp only [headSpec]; omega) | (simp only [headSpec]; omega) | omega) (by first | exact Nat.le_of_ble_eq_true rfl | omega | (dsimp only [headSpec]; omega) | (simp only [headSpec]; omega) | omega) ?_
  exact W.iret (v := r3) hx hb hr (fun t ht hW => ⟨⟨_, (), rfl, trivial, _, _, _, _, hfq2, by rw [ht]; exact hPe, va_K.moved hW.alike hK, hDe⟩, hS.F ht⟩) hS.2.2 dX15_file_43
