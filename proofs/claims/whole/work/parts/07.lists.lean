/-! laid by wip/whole: names, words and decode rows from the print of the task; the contracts are told in wip/whole/*.py -/
theorem dJxa1e45_init_da8c8_0 : decode cJxa1e45_init_da8c8 0 = .ok (.aload_n 0, 1) := by decide +kernel
theorem dJxa1e45_init_da8c8_1 : decode cJxa1e45_init_da8c8 1 = .ok (.invokespecial 1, 3) := by decide +kernel
theorem dJxa1e45_init_da8c8_4 : decode cJxa1e45_init_da8c8 4 = .ok (.return_, 1) := by decide +kernel
theorem dJxc12de_init_da8c8_0 : decode cJxc12de_init_da8c8 0 = .ok (.aload_n 0, 1) := by decide +kernel
theorem dJxc12de_init_da8c8_1 : decode cJxc12de_init_da8c8 1 = .ok (.invokespecial 1, 3) := by decide +kernel
theorem dJxc12de_init_da8c8_4 : decode cJxc12de_init_da8c8 4 = .ok (.aload_n 0, 1) := by decide +kernel
theorem dJxc12de_init_da8c8_5 : decode cJxc12de_init_da8c8 5 = .ok (.iconst 0, 1) := by decide +kernel
theorem dJxc12de_init_da8c8_6 : decode cJxc12de_init_da8c8 6 = .ok (.putfield 7, 3) := by decide +kernel
theorem dJxc12de_init_da8c8_9 : decode cJxc12de_init_da8c8 9 = .ok (.return_, 1) := by decide +kernel
theorem dJx4a65c_init_da8c8_0 : decode cJx4a65c_init_da8c8 0 = .ok (.aload_n 0, 1) := by decide +kernel
theorem dJx4a65c_init_da8c8_1 : decode cJx4a65c_init_da8c8 1 = .ok (.invokespecial 1, 3) := by decide +kernel
theorem dJx4a65c_init_da8c8_4 : decode cJx4a65c_init_da8c8 4 = .ok (.aload_n 0, 1) := by decide +kernel
theorem dJx4a65c_init_da8c8_5 : decode cJx4a65c_init_da8c8 5 = .ok (.getstatic 39, 3) := by decide +kernel
theorem dJx4a65c_init_da8c8_8 : decode cJx4a65c_init_da8c8 8 = .ok (.putfield 9, 3) := by decide +kernel
theorem dJx4a65c_init_da8c8_11 : decode cJx4a65c_init_da8c8 11 = .ok (.return_, 1) := by decide +kernel
theorem dJx4a65c_size_8abf5_0 : decode cJx4a65c_size_8abf5 0 = .ok (.aload_n 0, 1) := by decide +kernel
theorem dJx4a65c_size_8abf5_1 : decode cJx4a65c_size_8abf5 1 = .ok (.getfield 48, 3) := by decide +kernel
theorem dJx4a65c_size_8abf5_4 : decode cJx4a65c_size_8abf5 4 = .ok (.ireturn, 1) := by decide +kernel
theorem dJ3_checkIndex_8e157_0 : decode cJ3_checkIndex_8e157 0 = .ok (.iload_n 0, 1) := by decide +kernel
theorem dJ3_checkIndex_8e157_1 : decode cJ3_checkIndex_8e157 1 = .ok (.ifCond .lt 8, 3) := by decide +kernel
theorem dJ3_checkIndex_8e157_4 : decode cJ3_checkIndex_8e157 4 = .ok (.iload_n 0, 1) := by decide +kernel
theorem dJ3_checkIndex_8e157_5 : decode cJ3_checkIndex_8e157 5 = .ok (.iload_n 1, 1) := by decide +kernel
theorem dJ3_checkIndex_8e157_6 : decode cJ3_checkIndex_8e157 6 = .ok (.if_icmp .lt 10, 3) := by decide +kernel
theorem dJ3_checkIndex_8e157_9 : decode cJ3_checkIndex_8e157 9 = .ok (.aload_n 2, 1) := by decide +kernel
theorem dJ3_checkIndex_8e157_10 : decode cJ3_checkIndex_8e157 10 = .ok (.iload_n 0, 1) := by decide +kernel
theorem dJ3_checkIndex_8e157_11 : decode cJ3_checkIndex_8e157 11 = .ok (.iload_n 1, 1) := by decide +kernel
theorem dJ3_checkIndex_8e157_12 : decode cJ3_checkIndex_8e157 12 = .ok (.invokestatic 95, 3) := by decide +kernel
theorem dJ3_checkIndex_8e157_15 : decode cJ3_checkIndex_8e157 15 = .ok (.athrow, 1) := by decide +kernel
theorem dJ3_checkIndex_8e157_16 : decode cJ3_checkIndex_8e157 16 = .ok (.iload_n 0, 1) := by decide +kernel
theorem dJ3_checkIndex_8e157_17 : decode cJ3_checkIndex_8e157 17 = .ok (.ireturn, 1) := by decide +kernel
theorem dJ15_checkIndex_7cf53_0 : decode cJ15_checkIndex_7cf53 0 = .ok (.iload_n 0, 1) := by decide +kernel
theorem dJ15_checkIndex_7cf53_1 : decode cJ15_checkIndex_7cf53 1 = .ok (.iload_n 1, 1) := by decide +kernel
theorem dJ15_checkIndex_7cf53_2 : decode cJ15_checkIndex_7cf53 2 = .ok (.aconst_null, 1) := by decide +kernel
theorem dJ15_checkIndex_7cf53_3 : decode cJ15_checkIndex_7cf53 3 = .ok (.invokestatic 105, 3) := by decide +kernel
theorem dJ15_checkIndex_7cf53_6 : decode cJ15_checkIndex_7cf53 6 = .ok (.ireturn, 1) := by decide +kernel
theorem dJx4a65c_elementData_915e3_0 : decode cJx4a65c_elementData_915e3 0 = .ok (.aload_n 0, 1) := by decide +kernel
theorem dJx4a65c_elementData_915e3_1 : decode cJx4a65c_elementData_915e3 1 = .ok (.getfield 9, 3) := by decide +kernel
theorem dJx4a65c_elementData_915e3_4 : decode cJx4a65c_elementData_915e3 4 = .ok (.iload_n 1, 1) := by decide +kernel
theorem dJx4a65c_elementData_915e3_5 : decode cJx4a65c_elementData_915e3 5 = .ok (.aaload, 1) := by decide +kernel
theorem dJx4a65c_elementData_915e3_6 : decode cJx4a65c_elementData_915e3 6 = .ok (.areturn, 1) := by decide +kernel
theorem dJx4a65c_get_915e3_0 : decode cJx4a65c_get_915e3 0 = .ok (.iload_n 1, 1) := by decide +kernel
theorem dJx4a65c_get_915e3_1 : decode cJx4a65c_get_915e3 1 = .ok (.aload_n 0, 1) := by decide +kernel
theorem dJx4a65c_get_915e3_2 : decode cJx4a65c_get_915e3 2 = .ok (.getfield 48, 3) := by decide +kernel
theorem dJx4a65c_get_915e3_5 : decode cJx4a65c_get_915e3 5 = .ok (.invokestatic 118, 3) := by decide +kernel
theorem dJx4a65c_get_915e3_8 : decode cJx4a65c_get_915e3 8 = .ok (.pop, 1) := by decide +kernel
theorem dJx4a65c_get_915e3_9 : decode cJx4a65c_get_915e3 9 = .ok (.aload_n 0, 1) := by decide +kernel
theorem dJx4a65c_get_915e3_10 : decode cJx4a65c_get_915e3 10 = .ok (.iload_n 1, 1) := by decide +kernel
theorem dJx4a65c_get_915e3_11 : decode cJx4a65c_get_915e3 11 = .ok (.invokevirtual 123, 3) := by decide +kernel
theorem dJx4a65c_get_915e3_14 : decode cJx4a65c_get_915e3 14 = .ok (.areturn, 1) := by decide +kernel
theorem dJx4a65c_grow_92f84_0 : decode cJx4a65c_grow_92f84 0 = .ok (.aload_n 0, 1) := by decide +kernel
theorem dJx4a65c_grow_92f84_1 : decode cJx4a65c_grow_92f84 1 = .ok (.getfield 9, 3) := by decide +kernel
theorem dJx4a65c_grow_92f84_4 : decode cJx4a65c_grow_92f84 4 = .ok (.arraylength, 1) := by decide +kernel
theorem dJx4a65c_grow_92f84_5 : decode cJx4a65c_grow_92f84 5 = .ok (.istore_n 2, 1) := by decide +kernel
theorem dJx4a65c_grow_92f84_6 : decode cJx4a65c_grow_92f84 6 = .ok (.iload_n 2, 1) := by decide +kernel
theorem dJx4a65c_grow_92f84_7 : decode cJx4a65c_grow_92f84 7 = .ok (.ifCond .gt 13, 3) := by decide +kernel
theorem dJx4a65c_grow_92f84_10 : decode cJx4a65c_grow_92f84 10 = .ok (.aload_n 0, 1) := by decide +kernel
theorem dJx4a65c_grow_92f84_11 : decode cJx4a65c_grow_92f84 11 = .ok (.getfield 9, 3) := by decide +kernel
theorem dJx4a65c_grow_92f84_14 : decode cJx4a65c_grow_92f84 14 = .ok (.getstatic 39, 3) := by decide +kernel
theorem dJx4a65c_grow_92f84_17 : decode cJx4a65c_grow_92f84 17 = .ok (.if_acmp .eq 28, 3) := by decide +kernel
theorem dJx4a65c_grow_92f84_20 : decode cJx4a65c_grow_92f84 20 = .ok (.iload_n 2, 1) := by decide +kernel
theorem dJx4a65c_grow_92f84_21 : decode cJx4a65c_grow_92f84 21 = .ok (.iload_n 1, 1) := by decide +kernel
theorem dJx4a65c_grow_92f84_22 : decode cJx4a65c_grow_92f84 22 = .ok (.iload_n 2, 1) := by decide +kernel
theorem dJx4a65c_grow_92f84_23 : decode cJx4a65c_grow_92f84 23 = .ok (.isub, 1) := by decide +kernel
theorem dJx4a65c_grow_92f84_24 : decode cJx4a65c_grow_92f84 24 = .ok (.iload_n 2, 1) := by decide +kernel
theorem dJx4a65c_grow_92f84_25 : decode cJx4a65c_grow_92f84 25 = .ok (.iconst 1, 1) := by decide +kernel
theorem dJx4a65c_grow_92f84_26 : decode cJx4a65c_grow_92f84 26 = .ok (.ishr, 1) := by decide +kernel
theorem dJx4a65c_grow_92f84_27 : decode cJx4a65c_grow_92f84 27 = .ok (.invokestatic 73, 3) := by decide +kernel
theorem dJx4a65c_grow_92f84_30 : decode cJx4a65c_grow_92f84 30 = .ok (.istore_n 3, 1) := by decide +kernel
theorem dJx4a65c_grow_92f84_31 : decode cJx4a65c_grow_92f84 31 = .ok (.aload_n 0, 1) := by decide +kernel
theorem dJx4a65c_grow_92f84_32 : decode cJx4a65c_grow_92f84 32 = .ok (.aload_n 0, 1) := by decide +kernel
theorem dJx4a65c_grow_92f84_33 : decode cJx4a65c_grow_92f84 33 = .ok (.getfield 9, 3) := by decide +kernel
theorem dJx4a65c_grow_92f84_36 : decode cJx4a65c_grow_92f84 36 = .ok (.iload_n 3, 1) := by decide +kernel
theorem dJx4a65c_grow_92f84_37 : decode cJx4a65c_grow_92f84 37 = .ok (.invokestatic 66, 3) := by decide +kernel
theorem dJx4a65c_grow_92f84_40 : decode cJx4a65c_grow_92f84 40 = .ok (.dup_x1, 1) := by decide +kernel
theorem dJx4a65c_grow_92f84_41 : decode cJx4a65c_grow_92f84 41 = .ok (.putfield 9, 3) := by decide +kernel
theorem dJx4a65c_grow_92f84_44 : decode cJx4a65c_grow_92f84 44 = .ok (.areturn, 1) := by decide +kernel
theorem dJx4a65c_grow_92f84_45 : decode cJx4a65c_grow_92f84 45 = .ok (.aload_n 0, 1) := by decide +kernel
theorem dJx4a65c_grow_92f84_46 : decode cJx4a65c_grow_92f84 46 = .ok (.bipush 10, 2) := by decide +kernel
theorem dJx4a65c_grow_92f84_48 : decode cJx4a65c_grow_92f84 48 = .ok (.iload_n 1, 1) := by decide +kernel
theorem dJx4a65c_grow_92f84_49 : decode cJx4a65c_grow_92f84 49 = .ok (.invokestatic 79, 3) := by decide +kernel
theorem dJx4a65c_grow_92f84_52 : decode cJx4a65c_grow_92f84 52 = .ok (.anewarray 7, 3) := by decide +kernel
theorem dJx4a65c_grow_92f84_55 : decode cJx4a65c_grow_92f84 55 = .ok (.dup_x1, 1) := by decide +kernel
theorem dJx4a65c_grow_92f84_56 : decode cJx4a65c_grow_92f84 56 = .ok (.putfield 9, 3) := by decide +kernel
theorem dJx4a65c_grow_92f84_59 : decode cJx4a65c_grow_92f84 59 = .ok (.areturn, 1) := by decide +kernel
theorem dJx4a65c_grow_d5877_0 : decode cJx4a65c_grow_d5877 0 = .ok (.aload_n 0, 1) := by decide +kernel
theorem dJx4a65c_grow_d5877_1 : decode cJx4a65c_grow_d5877 1 = .ok (.aload_n 0, 1) := by decide +kernel
theorem dJx4a65c_grow_d5877_2 : decode cJx4a65c_grow_d5877 2 = .ok (.getfield 48, 3) := by decide +kernel
theorem dJx4a65c_grow_d5877_5 : decode cJx4a65c_grow_d5877 5 = .ok (.iconst 1, 1) := by decide +kernel
theorem dJx4a65c_grow_d5877_6 : decode cJx4a65c_grow_d5877 6 = .ok (.iadd, 1) := by decide +kernel
theorem dJx4a65c_grow_d5877_7 : decode cJx4a65c_grow_d5877 7 = .ok (.invokevirtual 69, 3) := by decide +kernel
theorem dJx4a65c_grow_d5877_10 : decode cJx4a65c_grow_d5877 10 = .ok (.areturn, 1) := by decide +kernel
theorem dJx4a65c_add_72be8_0 : decode cJx4a65c_add_72be8 0 = .ok (.iload_n 3, 1) := by decide +kernel
theorem dJx4a65c_add_72be8_1 : decode cJx4a65c_add_72be8 1 = .ok (.aload_n 2, 1) := by decide +kernel
theorem dJx4a65c_add_72be8_2 : decode cJx4a65c_add_72be8 2 = .ok (.arraylength, 1) := by decide +kernel
theorem dJx4a65c_add_72be8_3 : decode cJx4a65c_add_72be8 3 = .ok (.if_icmp .ne 8, 3) := by decide +kernel
theorem dJx4a65c_add_72be8_6 : decode cJx4a65c_add_72be8 6 = .ok (.aload_n 0, 1) := by decide +kernel
theorem dJx4a65c_add_72be8_7 : decode cJx4a65c_add_72be8 7 = .ok (.invokevirtual 129, 3) := by decide +kernel
theorem dJx4a65c_add_72be8_10 : decode cJx4a65c_add_72be8 10 = .ok (.astore_n 2, 1) := by decide +kernel
theorem dJx4a65c_add_72be8_11 : decode cJx4a65c_add_72be8 11 = .ok (.aload_n 2, 1) := by decide +kernel
theorem dJx4a65c_add_72be8_12 : decode cJx4a65c_add_72be8 12 = .ok (.iload_n 3, 1) := by decide +kernel
theorem dJx4a65c_add_72be8_13 : decode cJx4a65c_add_72be8 13 = .ok (.aload_n 1, 1) := by decide +kernel
theorem dJx4a65c_add_72be8_14 : decode cJx4a65c_add_72be8 14 = .ok (.aastore, 1) := by decide +kernel
theorem dJx4a65c_add_72be8_15 : decode cJx4a65c_add_72be8 15 = .ok (.aload_n 0, 1) := by decide +kernel
theorem dJx4a65c_add_72be8_16 : decode cJx4a65c_add_72be8 16 = .ok (.iload_n 3, 1) := by decide +kernel
theorem dJx4a65c_add_72be8_17 : decode cJx4a65c_add_72be8 17 = .ok (.iconst 1, 1) := by decide +kernel
theorem dJx4a65c_add_72be8_18 : decode cJx4a65c_add_72be8 18 = .ok (.iadd, 1) := by decide +kernel
theorem dJx4a65c_add_72be8_19 : decode cJx4a65c_add_72be8 19 = .ok (.putfield 48, 3) := by decide +kernel
theorem dJx4a65c_add_72be8_22 : decode cJx4a65c_add_72be8 22 = .ok (.return_, 1) := by decide +kernel
theorem dJx4a65c_add_9ea2d_0 : decode cJx4a65c_add_9ea2d 0 = .ok (.aload_n 0, 1) := by decide +kernel
theorem dJx4a65c_add_9ea2d_1 : decode cJx4a65c_add_9ea2d 1 = .ok (.dup, 1) := by decide +kernel
theorem dJx4a65c_add_9ea2d_2 : decode cJx4a65c_add_9ea2d 2 = .ok (.getfield 63, 3) := by decide +kernel
theorem dJx4a65c_add_9ea2d_5 : decode cJx4a65c_add_9ea2d 5 = .ok (.iconst 1, 1) := by decide +kernel
theorem dJx4a65c_add_9ea2d_6 : decode cJx4a65c_add_9ea2d 6 = .ok (.iadd, 1) := by decide +kernel
theorem dJx4a65c_add_9ea2d_7 : decode cJx4a65c_add_9ea2d 7 = .ok (.putfield 63, 3) := by decide +kernel
theorem dJx4a65c_add_9ea2d_10 : decode cJx4a65c_add_9ea2d 10 = .ok (.aload_n 0, 1) := by decide +kernel
theorem dJx4a65c_add_9ea2d_11 : decode cJx4a65c_add_9ea2d 11 = .ok (.aload_n 1, 1) := by decide +kernel
theorem dJx4a65c_add_9ea2d_12 : decode cJx4a65c_add_9ea2d 12 = .ok (.aload_n 0, 1) := by decide +kernel
theorem dJx4a65c_add_9ea2d_13 : decode cJx4a65c_add_9ea2d 13 = .ok (.getfield 9, 3) := by decide +kernel
theorem dJx4a65c_add_9ea2d_16 : decode cJx4a65c_add_9ea2d 16 = .ok (.aload_n 0, 1) := by decide +kernel
theorem dJx4a65c_add_9ea2d_17 : decode cJx4a65c_add_9ea2d 17 = .ok (.getfield 48, 3) := by decide +kernel
theorem dJx4a65c_add_9ea2d_20 : decode cJx4a65c_add_9ea2d 20 = .ok (.invokevirtual 131, 3) := by decide +kernel
theorem dJx4a65c_add_9ea2d_23 : decode cJx4a65c_add_9ea2d 23 = .ok (.iconst 1, 1) := by decide +kernel
theorem dJx4a65c_add_9ea2d_24 : decode cJx4a65c_add_9ea2d 24 = .ok (.ireturn, 1) := by decide +kernel
def usJxa1e45_init_da8c8 : List Cond := .code yJxa1e45_init_da8c8 cJxa1e45_init_da8c8 1 none :: ([.methodLink RJxa1e45 1 objectInit, .instanceMethod objectInit, .code objectInit ⟨#[0xb1]⟩ 1 none])
def usJxc12de_init_da8c8 : List Cond := .code yJxc12de_init_da8c8 cJxc12de_init_da8c8 1 none :: ([.fieldLink RJxc12de 7 "java/util/AbstractList" "modCount" "I", .methodLink RJxc12de 1 yJxa1e45_init_da8c8, .instanceMethod yJxa1e45_init_da8c8, .initialized RJxa1e45, .code yJxa1e45_init_da8c8 cJxa1e45_init_da8c8 1 none, .methodLink RJxa1e45 1 objectInit, .instanceMethod objectInit, .code objectInit ⟨#[0xb1]⟩ 1 none] ++ wsJx4a65c0)
def usJx4a65c_init_da8c8 : List Cond := .code yJx4a65c_init_da8c8 cJx4a65c_init_da8c8 1 none :: ([.fieldLink RJx4a65c 39 "java/util/ArrayList" "DEFAULTCAPACITY_EMPTY_ELEMENTDATA" "[Ljava/lang/Object;", .fieldLink RJx4a65c 9 "java/util/ArrayList" "elementData" "[Ljava/lang/Object;", .methodLink RJx4a65c 1 yJxc12de_init_da8c8, .instanceMethod yJxc12de_init_da8c8, .initialized RJxc12de, .code yJxc12de_init_da8c8 cJxc12de_init_da8c8 1 none, .fieldLink RJxc12de 7 "java/util/AbstractList" "modCount" "I", .methodLink RJxc12de 1 yJxa1e45_init_da8c8, .instanceMethod yJxa1e45_init_da8c8, .initialized RJxa1e45, .code yJxa1e45_init_da8c8 cJxa1e45_init_da8c8 1 none, .methodLink RJxa1e45 1 objectInit, .instanceMethod objectInit, .code objectInit ⟨#[0xb1]⟩ 1 none] ++ wsJx4a65c0)
def usJx4a65c_size_8abf5 : List Cond := .code yJx4a65c_size_8abf5 cJx4a65c_size_8abf5 1 (some .int) :: ([.fieldLink RJx4a65c 48 "java/util/ArrayList" "size" "I"] ++ wsJx4a65c0)
def usJ3_checkIndex_8e157 : List Cond := .code yJ3_checkIndex_8e157 cJ3_checkIndex_8e157 3 (some .int) :: ([])
def usJ15_checkIndex_7cf53 : List Cond := .code yJ15_checkIndex_7cf53 cJ15_checkIndex_7cf53 2 (some .int) :: ([.methodLink RJ15 105 yJ3_checkIndex_8e157, .static yJ3_checkIndex_8e157, .initialized RJ3, .code yJ3_checkIndex_8e157 cJ3_checkIndex_8e157 3 (some .int)])
def usJx4a65c_elementData_915e3 : List Cond := .code yJx4a65c_elementData_915e3 cJx4a65c_elementData_915e3 2 (some (.object "java/lang/Object")) :: ([.fieldLink RJx4a65c 9 "java/util/ArrayList" "elementData" "[Ljava/lang/Object;"] ++ wsJx4a65c0)
def usJx4a65c_get_915e3 : List Cond := .code yJx4a65c_get_915e3 cJx4a65c_get_915e3 2 (some (.object "java/lang/Object")) :: ([.fieldLink RJx4a65c 48 "java/util/ArrayList" "size" "I", .methodLink RJx4a65c 118 yJ15_checkIndex_7cf53, .static yJ15_checkIndex_7cf53, .initialized RJ15, .code yJ15_checkIndex_7cf53 cJ15_checkIndex_7cf53 2 (some .int), .methodLink RJ15 105 yJ3_checkIndex_8e157, .static yJ3_checkIndex_8e157, .initialized RJ3, .code yJ3_checkIndex_8e157 cJ3_checkIndex_8e157 3 (some .int), .methodLink RJx4a65c 123 yJx4a65c_elementData_915e3, .instanceMethod yJx4a65c_elementData_915e3, .selects RJx4a65c yJx4a65c_elementData_915e3 yJx4a65c_elementData_915e3, .initialized RJx4a65c, .code yJx4a65c_elementData_915e3 cJx4a65c_elementData_915e3 2 (some (.object "java/lang/Object")), .fieldLink RJx4a65c 9 "java/util/ArrayList" "elementData" "[Ljava/lang/Object;"] ++ wsJx4a65c0)
def usJx4a65c_grow_92f84_r1 : List Cond := [Cond.fieldLink RJx4a65c 9 "java/util/ArrayList" "elementData" "[Ljava/lang/Object;", Cond.fieldLink RJx4a65c 39 "java/util/ArrayList" "DEFAULTCAPACITY_EMPTY_ELEMENTDATA" "[Ljava/lang/Object;", Cond.methodLink RJx4a65c 79 Lib.Math.max.name, Cond.static Lib.Math.max.name, Cond.initialized "java/lang/Math", Cond.code Lib.Math.max.name Lib.Math.max.code 2 (some .int), Cond.classLink RJx4a65c 7 "java/lang/Object", Cond.methodLink RJx4a65c 73 yJ8_newLength_cabcc, Cond.static yJ8_newLength_cabcc, Cond.initialized RJ8, Cond.code yJ8_newLength_cabcc cJ8_newLength_cabcc 4 (some .int), Cond.methodLink RJ8 194 Lib.Math.max.name, Cond.constant RJ8 200 (2147483639), Cond.methodLink RJ8 201 yJ8_hugeLength_7cf53, Cond.static yJ8_hugeLength_7cf53, Cond.code yJ8_hugeLength_7cf53 cJ8_hugeLength_7cf53 3 (some .int), Cond.methodLink RJx4a65c 66 yJ7_copyOf_1904c, Cond.static yJ7_copyOf_1904c, Cond.initialized RJ7, Cond.code yJ7_copyOf_1904c cJ7_copyOf_1904c 2 (some (.array (.object "java/lang/Object")))]
def usJx4a65c_grow_92f84_r2 : List Cond := [Cond.methodLink RJ7 86 ⟨"java/lang/Object", "getClass", "()Ljava/lang/Class;"⟩, Cond.selects "[Ljava/lang/Object;" ⟨"java/lang/Object", "getClass", "()Ljava/lang/Class;"⟩ ⟨"java/lang/Object", "getClass", "()Ljava/lang/Class;"⟩, Cond.instanceMethod ⟨"java/lang/Object", "getClass", "()Ljava/lang/Class;"⟩, Cond.native ⟨"java/lang/Object", "getClass", "()Ljava/lang/Class;"⟩, Cond.methodLink RJ7 300 yJ7_copyOf_6403c, Cond.static yJ7_copyOf_6403c, Cond.code yJ7_copyOf_6403c cJ7_copyOf_6403c 4 (some (.array (.object "java/lang/Object"))), Cond.classLink RJ7 110 "[Ljava/lang/Object;", Cond.classLink RJ7 2 "java/lang/Object", Cond.methodLink RJ7 304 Lib.Math.min.name, Cond.static Lib.Math.min.name, Cond.code Lib.Math.min.name Lib.Math.min.code 2 (some .int), Cond.methodLink RJ7 150 arraycopyName, Cond.native arraycopyName, Cond.static arraycopyName, Cond.initialized "java/lang/System"]
def usJx4a65c_grow_92f84 : List Cond := .code yJx4a65c_grow_92f84 cJx4a65c_grow_92f84 4 (some (.array (.object "java/lang/Object"))) :: ((usJx4a65c_grow_92f84_r1 ++ (usJx4a65c_grow_92f84_r2)) ++ wsJx4a65c0)
def usJx4a65c_grow_d5877_r1 : List Cond := [Cond.fieldLink RJx4a65c 48 "java/util/ArrayList" "size" "I", Cond.methodLink RJx4a65c 69 yJx4a65c_grow_92f84, Cond.instanceMethod yJx4a65c_grow_92f84, Cond.selects RJx4a65c yJx4a65c_grow_92f84 yJx4a65c_grow_92f84, Cond.initialized RJx4a65c, Cond.code yJx4a65c_grow_92f84 cJx4a65c_grow_92f84 4 (some (.array (.object "java/lang/Object"))), Cond.fieldLink RJx4a65c 9 "java/util/ArrayList" "elementData" "[Ljava/lang/Object;", Cond.fieldLink RJx4a65c 39 "java/util/ArrayList" "DEFAULTCAPACITY_EMPTY_ELEMENTDATA" "[Ljava/lang/Object;", Cond.methodLink RJx4a65c 79 Lib.Math.max.name, Cond.static Lib.Math.max.name, Cond.initialized "java/lang/Math", Cond.code Lib.Math.max.name Lib.Math.max.code 2 (some .int), Cond.classLink RJx4a65c 7 "java/lang/Object", Cond.methodLink RJx4a65c 73 yJ8_newLength_cabcc, Cond.static yJ8_newLength_cabcc, Cond.initialized RJ8, Cond.code yJ8_newLength_cabcc cJ8_newLength_cabcc 4 (some .int), Cond.methodLink RJ8 194 Lib.Math.max.name, Cond.constant RJ8 200 (2147483639), Cond.methodLink RJ8 201 yJ8_hugeLength_7cf53]
def usJx4a65c_grow_d5877_r2 : List Cond := [Cond.static yJ8_hugeLength_7cf53, Cond.code yJ8_hugeLength_7cf53 cJ8_hugeLength_7cf53 3 (some .int), Cond.methodLink RJx4a65c 66 yJ7_copyOf_1904c, Cond.static yJ7_copyOf_1904c, Cond.initialized RJ7, Cond.code yJ7_copyOf_1904c cJ7_copyOf_1904c 2 (some (.array (.object "java/lang/Object"))), Cond.methodLink RJ7 86 ⟨"java/lang/Object", "getClass", "()Ljava/lang/Class;"⟩, Cond.selects "[Ljava/lang/Object;" ⟨"java/lang/Object", "getClass", "()Ljava/lang/Class;"⟩ ⟨"java/lang/Object", "getClass", "()Ljava/lang/Class;"⟩, Cond.instanceMethod ⟨"java/lang/Object", "getClass", "()Ljava/lang/Class;"⟩, Cond.native ⟨"java/lang/Object", "getClass", "()Ljava/lang/Class;"⟩, Cond.methodLink RJ7 300 yJ7_copyOf_6403c, Cond.static yJ7_copyOf_6403c, Cond.code yJ7_copyOf_6403c cJ7_copyOf_6403c 4 (some (.array (.object "java/lang/Object"))), Cond.classLink RJ7 110 "[Ljava/lang/Object;", Cond.classLink RJ7 2 "java/lang/Object", Cond.methodLink RJ7 304 Lib.Math.min.name, Cond.static Lib.Math.min.name, Cond.code Lib.Math.min.name Lib.Math.min.code 2 (some .int), Cond.methodLink RJ7 150 arraycopyName, Cond.native arraycopyName]
def usJx4a65c_grow_d5877_r3 : List Cond := [Cond.static arraycopyName, Cond.initialized "java/lang/System"]
def usJx4a65c_grow_d5877 : List Cond := .code yJx4a65c_grow_d5877 cJx4a65c_grow_d5877 1 (some (.array (.object "java/lang/Object"))) :: ((usJx4a65c_grow_d5877_r1 ++ (usJx4a65c_grow_d5877_r2 ++ (usJx4a65c_grow_d5877_r3))) ++ wsJx4a65c0)
def usJx4a65c_add_72be8_r1 : List Cond := [Cond.fieldLink RJx4a65c 48 "java/util/ArrayList" "size" "I", Cond.methodLink RJx4a65c 129 yJx4a65c_grow_d5877, Cond.instanceMethod yJx4a65c_grow_d5877, Cond.selects RJx4a65c yJx4a65c_grow_d5877 yJx4a65c_grow_d5877, Cond.initialized RJx4a65c, Cond.code yJx4a65c_grow_d5877 cJx4a65c_grow_d5877 1 (some (.array (.object "java/lang/Object"))), Cond.methodLink RJx4a65c 69 yJx4a65c_grow_92f84, Cond.instanceMethod yJx4a65c_grow_92f84, Cond.selects RJx4a65c yJx4a65c_grow_92f84 yJx4a65c_grow_92f84, Cond.code yJx4a65c_grow_92f84 cJx4a65c_grow_92f84 4 (some (.array (.object "java/lang/Object"))), Cond.fieldLink RJx4a65c 9 "java/util/ArrayList" "elementData" "[Ljava/lang/Object;", Cond.fieldLink RJx4a65c 39 "java/util/ArrayList" "DEFAULTCAPACITY_EMPTY_ELEMENTDATA" "[Ljava/lang/Object;", Cond.methodLink RJx4a65c 79 Lib.Math.max.name, Cond.static Lib.Math.max.name, Cond.initialized "java/lang/Math", Cond.code Lib.Math.max.name Lib.Math.max.code 2 (some .int), Cond.classLink RJx4a65c 7 "java/lang/Object", Cond.methodLink RJx4a65c 73 yJ8_newLength_cabcc, Cond.static yJ8_newLength_cabcc, Cond.initialized RJ8]
def usJx4a65c_add_72be8_r2 : List Cond := [Cond.code yJ8_newLength_cabcc cJ8_newLength_cabcc 4 (some .int), Cond.methodLink RJ8 194 Lib.Math.max.name, Cond.constant RJ8 200 (2147483639), Cond.methodLink RJ8 201 yJ8_hugeLength_7cf53, Cond.static yJ8_hugeLength_7cf53, Cond.code yJ8_hugeLength_7cf53 cJ8_hugeLength_7cf53 3 (some .int), Cond.methodLink RJx4a65c 66 yJ7_copyOf_1904c, Cond.static yJ7_copyOf_1904c, Cond.initialized RJ7, Cond.code yJ7_copyOf_1904c cJ7_copyOf_1904c 2 (some (.array (.object "java/lang/Object"))), Cond.methodLink RJ7 86 ⟨"java/lang/Object", "getClass", "()Ljava/lang/Class;"⟩, Cond.selects "[Ljava/lang/Object;" ⟨"java/lang/Object", "getClass", "()Ljava/lang/Class;"⟩ ⟨"java/lang/Object", "getClass", "()Ljava/lang/Class;"⟩, Cond.instanceMethod ⟨"java/lang/Object", "getClass", "()Ljava/lang/Class;"⟩, Cond.native ⟨"java/lang/Object", "getClass", "()Ljava/lang/Class;"⟩, Cond.methodLink RJ7 300 yJ7_copyOf_6403c, Cond.static yJ7_copyOf_6403c, Cond.code yJ7_copyOf_6403c cJ7_copyOf_6403c 4 (some (.array (.object "java/lang/Object"))), Cond.classLink RJ7 110 "[Ljava/lang/Object;", Cond.classLink RJ7 2 "java/lang/Object", Cond.methodLink RJ7 304 Lib.Math.min.name]
def usJx4a65c_add_72be8_r3 : List Cond := [Cond.static Lib.Math.min.name, Cond.code Lib.Math.min.name Lib.Math.min.code 2 (some .int), Cond.methodLink RJ7 150 arraycopyName, Cond.native arraycopyName, Cond.static arraycopyName, Cond.initialized "java/lang/System"]
def usJx4a65c_add_72be8 : List Cond := .code yJx4a65c_add_72be8 cJx4a65c_add_72be8 4 none :: ((usJx4a65c_add_72be8_r1 ++ (usJx4a65c_add_72be8_r2 ++ (usJx4a65c_add_72be8_r3))) ++ wsJx4a65c0)
def usJx4a65c_add_9ea2d_r1 : List Cond := [Cond.fieldLink RJx4a65c 63 "java/util/ArrayList" "modCount" "I", Cond.sameField "java/util/ArrayList" "java/util/AbstractList" "modCount" "I", Cond.fieldLink RJx4a65c 9 "java/util/ArrayList" "elementData" "[Ljava/lang/Object;", Cond.fieldLink RJx4a65c 48 "java/util/ArrayList" "size" "I", Cond.methodLink RJx4a65c 131 yJx4a65c_add_72be8, Cond.instanceMethod yJx4a65c_add_72be8, Cond.selects RJx4a65c yJx4a65c_add_72be8 yJx4a65c_add_72be8, Cond.initialized RJx4a65c, Cond.code yJx4a65c_add_72be8 cJx4a65c_add_72be8 4 none, Cond.methodLink RJx4a65c 129 yJx4a65c_grow_d5877, Cond.instanceMethod yJx4a65c_grow_d5877, Cond.selects RJx4a65c yJx4a65c_grow_d5877 yJx4a65c_grow_d5877, Cond.code yJx4a65c_grow_d5877 cJx4a65c_grow_d5877 1 (some (.array (.object "java/lang/Object"))), Cond.methodLink RJx4a65c 69 yJx4a65c_grow_92f84, Cond.instanceMethod yJx4a65c_grow_92f84, Cond.selects RJx4a65c yJx4a65c_grow_92f84 yJx4a65c_grow_92f84, Cond.code yJx4a65c_grow_92f84 cJx4a65c_grow_92f84 4 (some (.array (.object "java/lang/Object"))), Cond.fieldLink RJx4a65c 39 "java/util/ArrayList" "DEFAULTCAPACITY_EMPTY_ELEMENTDATA" "[Ljava/lang/Object;", Cond.methodLink RJx4a65c 79 Lib.Math.max.name, Cond.static Lib.Math.max.name]
def usJx4a65c_add_9ea2d_r2 : List Cond := [Cond.initialized "java/lang/Math", Cond.code Lib.Math.max.name Lib.Math.max.code 2 (some .int), Cond.classLink RJx4a65c 7 "java/lang/Object", Cond.methodLink RJx4a65c 73 yJ8_newLength_cabcc, Cond.static yJ8_newLength_cabcc, Cond.initialized RJ8, Cond.code yJ8_newLength_cabcc cJ8_newLength_cabcc 4 (some .int), Cond.methodLink RJ8 194 Lib.Math.max.name, Cond.constant RJ8 200 (2147483639), Cond.methodLink RJ8 201 yJ8_hugeLength_7cf53, Cond.static yJ8_hugeLength_7cf53, Cond.code yJ8_hugeLength_7cf53 cJ8_hugeLength_7cf53 3 (some .int), Cond.methodLink RJx4a65c 66 yJ7_copyOf_1904c, Cond.static yJ7_copyOf_1904c, Cond.initialized RJ7, Cond.code yJ7_copyOf_1904c cJ7_copyOf_1904c 2 (some (.array (.object "java/lang/Object"))), Cond.methodLink RJ7 86 ⟨"java/lang/Object", "getClass", "()Ljava/lang/Class;"⟩, Cond.selects "[Ljava/lang/Object;" ⟨"java/lang/Object", "getClass", "()Ljava/lang/Class;"⟩ ⟨"java/lang/Object", "getClass", "()Ljava/lang/Class;"⟩, Cond.instanceMethod ⟨"java/lang/Object", "getClass", "()Ljava/lang/Class;"⟩, Cond.native ⟨"java/lang/Object", "getClass", "()Ljava/lang/Class;"⟩]
def usJx4a65c_add_9ea2d_r3 : List Cond := [Cond.methodLink RJ7 300 yJ7_copyOf_6403c, Cond.static yJ7_copyOf_6403c, Cond.code yJ7_copyOf_6403c cJ7_copyOf_6403c 4 (some (.array (.object "java/lang/Object"))), Cond.classLink RJ7 110 "[Ljava/lang/Object;", Cond.classLink RJ7 2 "java/lang/Object", Cond.methodLink RJ7 304 Lib.Math.min.name, Cond.static Lib.Math.min.name, Cond.code Lib.Math.min.name Lib.Math.min.code 2 (some .int), Cond.methodLink RJ7 150 arraycopyName, Cond.native arraycopyName, Cond.static arraycopyName, Cond.initialized "java/lang/System"]
def usJx4a65c_add_9ea2d : List Cond := .code yJx4a65c_add_9ea2d cJx4a65c_add_9ea2d 2 (some .boolean) :: ((usJx4a65c_add_9ea2d_r1 ++ (usJx4a65c_add_9ea2d_r2 ++ (usJx4a65c_add_9ea2d_r3))) ++ wsJx4a65c0)
theorem inJxc12de_init_da8c8_RJx4a65c : ∀ w ∈ u_ws RJx4a65c TJx4a65c 3, w ∈ usJxc12de_init_da8c8 := by decide +kernel
theorem inJx4a65c_init_da8c8_RJx4a65c : ∀ w ∈ u_ws RJx4a65c TJx4a65c 3, w ∈ usJx4a65c_init_da8c8 := by decide +kernel
theorem inJx4a65c_size_8abf5_RJx4a65c : ∀ w ∈ u_ws RJx4a65c TJx4a65c 3, w ∈ usJx4a65c_size_8abf5 := by decide +kernel
theorem inJx4a65c_elementData_915e3_RJx4a65c : ∀ w ∈ u_ws RJx4a65c TJx4a65c 3, w ∈ usJx4a65c_elementData_915e3 := by decide +kernel
theorem inJx4a65c_get_915e3_RJx4a65c : ∀ w ∈ u_ws RJx4a65c TJx4a65c 3, w ∈ usJx4a65c_get_915e3 := by decide +kernel
theorem inJx4a65c_grow_92f84_RJx4a65c : ∀ w ∈ u_ws RJx4a65c TJx4a65c 3, w ∈ usJx4a65c_grow_92f84 := by decide +kernel
theorem inJx4a65c_grow_d5877_RJx4a65c : ∀ w ∈ u_ws RJx4a65c TJx4a65c 3, w ∈ usJx4a65c_grow_d5877 := by decide +kernel
theorem inJx4a65c_add_72be8_RJx4a65c : ∀ w ∈ u_ws RJx4a65c TJx4a65c 3, w ∈ usJx4a65c_add_72be8 := by decide +kernel
theorem inJx4a65c_add_9ea2d_RJx4a65c : ∀ w ∈ u_ws RJx4a65c TJx4a65c 3, w ∈ usJx4a65c_add_9ea2d := by decide +kernel
set_option maxRecDepth 20000 in
theorem ugJxc12de_init_da8c8_Jxa1e45_init_da8c8 : GoodIn usJxc12de_init_da8c8 (usJxa1e45_init_da8c8) := goodIn_p _ [5, 8] (by decide +kernel) (by decide +kernel)
set_option maxRecDepth 20000 in
theorem ugJx4a65c_init_da8c8_Jxc12de_init_da8c8 : GoodIn usJx4a65c_init_da8c8 (usJxc12de_init_da8c8) := goodIn_p _ [6, 11, 14] (by decide +kernel) (by decide +kernel)
set_option maxRecDepth 20000 in
theorem ugJ15_checkIndex_7cf53_J3_checkIndex_8e157 : GoodIn usJ15_checkIndex_7cf53 (va_wsS RJ15 105 yJ3_checkIndex_8e157 usJ3_checkIndex_8e157) := goodIn_p _ [4] (by decide +kernel) (by decide +kernel)
set_option maxRecDepth 20000 in
theorem ugJx4a65c_get_915e3_J15_checkIndex_7cf53 : GoodIn usJx4a65c_get_915e3 (va_wsS RJx4a65c 118 yJ15_checkIndex_7cf53 usJ15_checkIndex_7cf53) := goodIn_p _ [5, 9] (by decide +kernel) (by decide +kernel)
set_option maxRecDepth 20000 in
theorem ugJx4a65c_get_915e3_Jx4a65c_elementData_915e3 : GoodIn usJx4a65c_get_915e3 (wsV RJx4a65c 123 RJx4a65c yJx4a65c_elementData_915e3 usJx4a65c_elementData_915e3) := goodIn_p _ [14] (by decide +kernel) (by decide +kernel)
set_option maxRecDepth 20000 in
theorem ugJx4a65c_grow_d5877_Jx4a65c_grow_92f84 : GoodIn usJx4a65c_grow_d5877 (wsV RJx4a65c 69 RJx4a65c yJx4a65c_grow_92f84 usJx4a65c_grow_92f84) := goodIn_p _ [6, 12, 17, 22, 26, 33, 38] (by decide +kernel) (by decide +kernel)
set_option maxRecDepth 20000 in
theorem ugJx4a65c_add_72be8_Jx4a65c_grow_d5877 : GoodIn usJx4a65c_add_72be8 (wsV RJx4a65c 129 RJx4a65c yJx4a65c_grow_d5877 usJx4a65c_grow_d5877) := goodIn_p _ [6, 10, 16, 21, 26, 30, 37, 42] (by decide +kernel) (by decide +kernel)
set_option maxRecDepth 20000 in
theorem ugJx4a65c_add_9ea2d_Jx4a65c_add_72be8 : GoodIn usJx4a65c_add_9ea2d (wsV RJx4a65c 131 RJx4a65c yJx4a65c_add_72be8 usJx4a65c_add_72be8) := goodIn_p _ [9, 13, 17, 22, 27, 32, 36, 43, 48] (by decide +kernel) (by decide +kernel)
set_option maxHeartbeats 4000000 in
set_option maxRecDepth 100000 in
theorem p_acinit (l : Launch) (dC : Nat → ClassId) (dI : Nat → Nat → Nat) (cI cO : ClassId) (h : Nat) : Met l yJxa1e45_init_da8c8 usJxa1e45_init_da8c8 ({ frames := 1, cells := 0, slots := 0, locals := 12 }) (va_Pc [.ref h] (fun U => va_P (dC, dI) vwCl [] U.heap ∧ va_K (dC, dI) vwCl (ty0 cI cO) U)) (va_Sv (fun _ => True)) 0 0 (fun _ => False) := by
  refine Met.ofW (cc := cJxa1e45_init_da8c8) (maxL := 1) (ret := none) (by decide) rfl ?_
  intro p e s m args below meth c s₁ B hml hv
  obtain ⟨rfl, hP, hK⟩ := hv
  have hx := B.exec
  have hb := B.bytes
  have hr := B.returns
  have hts := atoms_spec (ws := usJxa1e45_init_da8c8) B.pre
  have hown : s.vm.findClass RJxa1e45 = some m.cls := findClass_of_methodNamed B.named
  have hlocks := B.notSynchronized
  have hin : meth.name = "<init>" := (name_of_methodNamed B.named B.method).1
  have hl := lv_entry ([.ref h]) (n := 1) (Nat.le_of_ble_eq_true rfl)
  rw [lg_entry_eq]
  generalize (lg_sl ([.ref h]) ++ List.replicate (1 - (lg_sl ([.ref h])).length) Slot.unset).toArray = ls at hl ⊢
  have hl : lv_has ls 1 [(0, .ref h)] := hl
  refine lv_aload_n hx hb dJxa1e45_init_da8c8_0 rfl (lv_at hl 0 rfl) ?_
  refine W.objInit hx hb hown (hts (.methodLink RJxa1e45 1 objectInit) (by decide +kernel)) (hts (.instanceMethod objectInit) (by decide +kernel)) (hts _ (List.mem_of_getElem? (i := 3) rfl)) rfl (by rw [hml]; exact hl.1) rfl dJxa1e45_init_da8c8_1 (by first | exact Nat.le_of_ble_eq_true rfl | omega | (dsimp only [headSpec]; omega) | (simp only [headSpec]; omega) | omega) (by first | exact Nat.le_of_ble_eq_true rfl | omega | (dsimp only [headSpec]; omega) | (simp only [headSpec]; omega) | omega) ?_
  refine W.eq (g2 := F0 m 4 ls []) rfl ?_
  exact W.vret hx hb hr (fun t ht hW => ⟨rfl, trivial, ht⟩) (fun q hq => by cases hq) dJxa1e45_init_da8c8_4
set_option maxHeartbeats 4000000 in
set_option maxRecDepth 100000 in
theorem c_abinit (l : Launch) (dC : Nat → ClassId) (dI : Nat → Nat → Nat) (cI cO : ClassId) (sz : Nat) (h : Nat) : Met l yJxc12de_init_da8c8 usJxc12de_init_da8c8 ({ frames := 2, cells := 0, slots := 0, locals := 32 }) (va_Pc [.ref h] (fun U => U.heap.size = sz ∧ va_P (dC, dI) vwCl [(h, .inr (6, [.int (nI 0), .null, .int (nI 0)]))] U.heap ∧ va_K (dC, dI) vwCl (ty0 cI cO) U ∧ va_D (fun _ => True) [(h, .inr (6, [.int (nI 0), .null, .int (nI 0)]))])) (va_Qv (fun _ : Unit => True) (fun _ t => va_P (dC, dI) vwCl [(h, .inr (6, [.int (nI 0), .null, .int (nI 0)]))] t.heap ∧ va_K (dC, dI) vwCl (ty0 cI cO) t ∧ va_D (va_A [(h, .inr (6, [.int (nI 0), .null, .int (nI 0)]))] sz) [(h, .inr (6, [.int (nI 0), .null, .int (nI 0)]))]) (va_A [(h, .inr (6, [.int (nI 0), .null, .int (nI 0)]))] sz)) 0 0 (va_A [(h, .inr (6, [.int (nI 0), .null, .int (nI 0)]))] sz) := by
  refine Met.ofW (cc := cJxc12de_init_da8c8) (maxL := 1) (ret := none) (by decide) rfl ?_
  intro p e s m args below meth c s₁ B hml hv
  obtain ⟨rfl, hsz, hP, hK, hD0⟩ := hv
  have hx := B.exec
  have hb := B.bytes
  have hr := B.returns
  have hts := atoms_spec (ws := usJxc12de_init_da8c8) B.pre
  have hown : s.vm.findClass RJxc12de = some m.cls := findClass_of_methodNamed B.named
  have hlocks := B.notSynchronized
  have hin : meth.name = "<init>" := (name_of_methodNamed B.named B.method).1
  subst hsz
  have hD := hD0.self (sz := s.heap.size)
  generalize hAe : va_A [(h, .inr (6, [.int (nI 0), .null, .int (nI 0)]))] s.heap.size = A at hD ⊢
  have hA : ∀ q : Nat, s.heap.size ≤ q → A q := fun q h => by rw [← hAe]; exact Or.inr h
  have hS : va_S A s.heap s.heap [] := va_S.rf
  have hl := lv_entry ([.ref h]) (n := 1) (Nat.le_of_ble_eq_true rfl)
  rw [lg_entry_eq]
  generalize (lg_sl ([.ref h]) ++ List.replicate (1 - (lg_sl ([.ref h])).length) Slot.unset).toArray = ls at hl ⊢
  have hl : lv_has ls 1 [(0, .ref h)] := hl
  refine lv_aload_n hx hb dJxc12de_init_da8c8_0 rfl (lv_at hl 0 rfl) ?_
  have hPc : va_P (dC, dI) vwCl [] _ := hP.sub [] rfl
  refine uc_v (va_runI (As := []) (rest := []) ⟨hx, hb, hml, hown, hts⟩ (p_acinit l dC dI cI cO h) (cwI 0 hts ugJxc12de_init_da8c8_Jxa1e45_init_da8c8 rfl rfl rfl (hts (.initialized RJxa1e45) (by decide +kernel)) (hts (.methodLink RJxc12de 1 yJxa1e45_init_da8c8) (by decide +kernel)) (hts (.instanceMethod yJxa1e45_init_da8c8) (by decide +kernel)) rfl (by decide +kernel) ⟨(by first | exact Nat.le_of_ble_eq_true rfl | omega | (dsimp only [headSpec]; omega) | (simp only [headSpec]; omega) | omega), (by first | exact Nat.le_of_ble_eq_true rfl | omega | (dsimp only [headSpec]; omega) | (simp only [headSpec]; omega) | omega)⟩) ⟨fun a U g mk q => by obtain ⟨q0, qP, qK⟩ := q; exact ⟨q0, qP, va_K.moved (u := U) (U := U.calling g mk a) (Vm.Alike.refl U.vm) qK⟩, fun U hU hW => ⟨rfl, by rw [hU]; exact hPc, va_K.moved hW.alike hK⟩⟩ rfl rfl hl.1 rfl (lv_room (Nat.le_of_ble_eq_true rfl)) dJxc12de_init_da8c8_1 ⟨(by first | exact Nat.le_of_ble_eq_true rfl | omega | (dsimp only [headSpec]; omega) | (simp only [headSpec]; omega) | omega), (by first | exact Nat.le_of_ble_eq_true rfl | omega | (dsimp only [headSpec]; omega) | (simp only [headSpec]; omega) | omega)⟩) ?_
  refine lv_aload_n hx hb dJxc12de_init_da8c8_4 rfl (lv_at hl 0 rfl) ?_
  refine lv_iconst (v := nI 0) hx hb dJxc12de_init_da8c8_5 (by decide) ?_
  refine va_put (D := (dC, dI)) (ci := 6) (v := .int (nI 0)) (ty := .int) (C := RJx4a65c) (T := TJx4a65c) (N := 3) hx hb hts inJxc12de_init_da8c8_RJx4a65c tyJx4a65c tyJx4a65c_ok nmJx4a65c hown hK hP hD hS 0 rfl rfl 0 (by decide) (hts (.fieldLink RJxc12de 7 "java/util/AbstractList" "modCount" "I") (by decide +kernel)) (fun _ h9 => h9) rfl (by decide +kernel) rfl rfl (Nat.le_of_ble_eq_true rfl) dJxc12de_init_da8c8_6 (fun H locs hP hD hS => ?_)
  have hP : va_P (dC, dI) vwCl [(h, .inr (6, [.int (nI 0), .null, .int (nI 0)]))] H := hP
  have hD : va_D A [(h, .inr (6, [.int (nI 0), .null, .int (nI 0)]))] := hD
  have hPe : va_P (dC, dI) vwCl [(h, .inr (6, [.int (nI 0), .null, .int (nI 0)]))] _ := hP.sub [0] rfl
  have hDe : va_D A [(h, .inr (6, [.int (nI 0), .null, .int (nI 0)]))] := hD.sub [0] (by decide) rfl
  refine W.widen (k := 0) (n := 0) (by first | exact Nat.le_of_ble_eq_true rfl | omega | (dsimp only [headSpec]; omega) | (simp only [headSpec]; omega) | omega) (by first | exact Nat.le_of_ble_eq_true rfl | omega | (dsimp only [headSpec]; omega) | (simp only [headSpec]; omega) | omega) ?_
  exact W.vret hx hb hr (fun t ht hW => ⟨⟨(), rfl, trivial, by rw [ht]; exact hPe, va_K.moved hW.alike hK, hDe⟩, hS.F ht⟩) hS.2.2 dJxc12de_init_da8c8_9
set_option maxHeartbeats 4000000 in
set_option maxRecDepth 100000 in
theorem c_alinit (l : Launch) (dC : Nat → ClassId) (dI : Nat → Nat → Nat) (cI cO : ClassId) (z0 : Nat) (sz : Nat) (h : Nat) : Met l yJx4a65c_init_da8c8 usJx4a65c_init_da8c8 ({ frames := 3, cells := 0, slots := 0, locals := 52 }) (va_Pc [.ref h] (fun U => U.heap.size = sz ∧ va_P (dC, dI) vwCl [(h, .inr (6, [.int (nI 0), .null, .int (nI 0)]))] U.heap ∧ va_K (dC, dI) vwCl (ty0 cI cO) U ∧ va_D (fun _ => True) [(h, .inr (6, [.int (nI 0), .null, .int (nI 0)]))] ∧ uz z0 (va_A [(h, .inr (6, [.int (nI 0), .null, .int (nI 0)]))] sz) U)) (va_Qv (fun _ : Unit => True) (fun _ t => va_P (dC, dI) vwCl [(h, .inr (6, [.int (nI 0), .ref z0, .int (nI 0)]))] t.heap ∧ va_K (dC, dI) vwCl (ty0 cI cO) t ∧ va_D (va_A [(h, .inr (6, [.int (nI 0), .null, .int (nI 0)]))] sz) [(h, .inr (6, [.int (nI 0), .ref z0, .int (nI 0)]))]) (va_A [(h, .inr (6, [.int (nI 0), .null, .int (nI 0)]))] sz)) 0 0 (va_A [(h, .inr (6, [.int (nI 0), .null, .int (nI 0)]))] sz) := by
  refine Met.ofW (cc := cJx4a65c_init_da8c8) (maxL := 1) (ret := none) (by decide) rfl ?_
  intro p e s m args below meth c s₁ B hml hv
  obtain ⟨rfl, hsz, hP, hK, hD0, hZ⟩ := hv
  have hx := B.exec
  have hb := B.bytes
  have hr := B.returns
  have hts := atoms_spec (ws := usJx4a65c_init_da8c8) B.pre
  have hown : s.vm.findClass RJx4a65c = some m.cls := findClass_of_methodNamed B.named
  have hlocks := B.notSynchronized
  have hin : meth.name = "<init>" := (name_of_methodNamed B.named B.method).1
  subst hsz
  have hD := hD0.self (sz := s.heap.size)
  generalize hAe : va_A [(h, .inr (6, [.int (nI 0), .null, .int (nI 0)]))] s.heap.size = A at hD hZ ⊢
  have hA : ∀ q : Nat, s.heap.size ≤ q → A q := fun q h => by rw [← hAe]; exact Or.inr h
  have hS : va_S A s.heap s.heap [] := va_S.rf
  obtain ⟨hZs, ⟨fz, hZt⟩, hZo, hZr, hZi, hZc⟩ := id hZ
  have hl := lv_entry ([.ref h]) (n := 1) (Nat.le_of_ble_eq_true rfl)
  rw [lg_entry_eq]
  generalize (lg_sl ([.ref h]) ++ List.replicate (1 - (lg_sl ([.ref h])).length) Slot.unset).toArray = ls at hl ⊢
  have hl : lv_has ls 1 [(0, .ref h)] := hl
  refine lv_aload_n hx hb dJx4a65c_init_da8c8_0 rfl (lv_at hl 0 rfl) ?_
  have hPc : va_P (dC, dI) vwCl [(h, .inr (6, [.int (nI 0), .null, .int (nI 0)]))] _ := hP.sub [0] rfl
  have hDc : va_D _ [(h, .inr (6, [.int (nI 0), .null, .int (nI 0)]))] := hD.sub [0] (by decide) rfl
  have hFc := va_free (wc := [(h, .inr (6, [.int (nI 0), .null, .int (nI 0)]))]) hD hS hA [0] rfl
  refine va_callv (va_runI (As := []) (rest := []) ⟨hx, hb, hml, hown, hts⟩ (c_abinit l dC dI cI cO s.heap.size h) (cwI 0 hts ugJx4a65c_init_da8c8_Jxc12de_init_da8c8 rfl rfl rfl (hts (.initialized RJxc12de) (by decide +kernel)) (hts (.methodLink RJx4a65c 1 yJxc12de_init_da8c8) (by decide +kernel)) (hts (.instanceMethod yJxc12de_init_da8c8) (by decide +kernel)) rfl (by decide +kernel) ⟨(by first | exact Nat.le_of_ble_eq_true rfl | omega | (dsimp only [headSpec]; omega) | (simp only [headSpec]; omega) | omega), (by first | exact Nat.le_of_ble_eq_true rfl | omega | (dsimp only [headSpec]; omega) | (simp only [headSpec]; omega) | omega)⟩) ⟨fun a U g mk q => by obtain ⟨q0, q1, qP, qK, qD⟩ := q; exact ⟨q0, q1, qP, va_K.moved (u := U) (U := U.calling g mk a) (Vm.Alike.refl U.vm) qK, qD⟩, fun U hU hW => ⟨rfl, by rw [hU], by rw [hU]; exact hPc, va_K.moved hW.alike hK, hDc.weaken (fun _ _ _ _ => trivial)⟩⟩ rfl rfl hl.1 rfl (lv_room (Nat.le_of_ble_eq_true rfl)) dJx4a65c_init_da8c8_1 ⟨(by first | exact Nat.le_of_ble_eq_true rfl | omega | (dsimp only [headSpec]; omega) | (simp only [headSpec]; omega) | omega), (by first | exact Nat.le_of_ble_eq_true rfl | omega | (dsimp only [headSpec]; omega) | (simp only [headSpec]; omega) | omega)⟩) hS (fun q _ h => hFc q h) hFc (fun u t H locs ht hvm hw hB hz1 hk1 hS => ?_)
  obtain ⟨hP1, hK1, hD1⟩ := hB
  rw [ht] at hP1
  obtain ⟨hP, hD⟩ := va_join (wr := []) (w1 := [(h, .inr (6, [.int (nI 0), .null, .int (nI 0)]))]) hP hD [0] [] rfl rfl (by decide) (by decide) hk1 hFc hP1 hD1
  have hP : va_P (dC, dI) vwCl [(h, .inr (6, [.int (nI 0), .null, .int (nI 0)]))] H := hP
  have hD : va_D A [(h, .inr (6, [.int (nI 0), .null, .int (nI 0)]))] := hD
  refine lv_aload_n hx hb dJx4a65c_init_da8c8_4 rfl (lv_at hl 0 rfl) ?_
  refine va_gets hx hb hZs hS hown (hts (.fieldLink RJx4a65c 39 "java/util/ArrayList" "DEFAULTCAPACITY_EMPTY_ELEMENTDATA" "[Ljava/lang/Object;") (by decide +kernel)) (fun _ h9 => h9) dJx4a65c_init_da8c8_5 ?_
  refine va_put (D := (dC, dI)) (ci := 6) (v := .ref z0) (ty := .array (.object "java/lang/Object")) (C := RJx4a65c) (T := TJx4a65c) (N := 3) hx hb hts inJx4a65c_init_da8c8_RJx4a65c tyJx4a65c tyJx4a65c_ok nmJx4a65c hown hK hP hD hS 0 rfl rfl 1 (by decide) (hts (.fieldLink RJx4a65c 9 "java/util/ArrayList" "elementData" "[Ljava/lang/Object;") (by decide +kernel)) (fun _ h9 => h9) rfl (by decide +kernel) rfl rfl (Nat.le_of_ble_eq_true rfl) dJx4a65c_init_da8c8_8 (fun H locs hP hD hS => ?_)
  have hP : va_P (dC, dI) vwCl [(h, .inr (6, [.int (nI 0), .ref z0, .int (nI 0)]))] H := hP
  have hD : va_D A [(h, .inr (6, [.int (nI 0), .ref z0, .int (nI 0)]))] := hD
  have hPe : va_P (dC, dI) vwCl [(h, .inr (6, [.int (nI 0), .ref z0, .int (nI 0)]))] _ := hP.sub [0] rfl
  have hDe : va_D A [(h, .inr (6, [.int (nI 0), .ref z0, .int (nI 0)]))] := hD.sub [0] (by decide) rfl
  refine W.widen (k := 0) (n := 0) (by first | exact Nat.le_of_ble_eq_true rfl | omega | (dsimp only [headSpec]; omega) | (simp only [headSpec]; omega) | omega) (by first | exact Nat.le_of_ble_eq_true rfl | omega | (dsimp only [headSpec]; omega) | (simp only [headSpec]; omega) | omega) ?_
  exact W.vret hx hb hr (fun t ht hW => ⟨⟨(), rfl, trivial, by rw [ht]; exact hPe, va_K.moved hW.alike hK, hDe⟩, hS.F ht⟩) hS.2.2 dJx4a65c_init_da8c8_11
set_option maxHeartbeats 4000000 in
set_option maxRecDepth 100000 in
theorem p_alsize (l : Launch) (dC : Nat → ClassId) (dI : Nat → Nat → Nat) (cI cO : ClassId) (h : Nat) (mc : Int32) (ed : Nat) (n : Nat) : Met l yJx4a65c_size_8abf5 usJx4a65c_size_8abf5 ({ frames := 0, cells := 0, slots := 0, locals := 0 }) (va_Pc [.ref h] (fun U => va_P (dC, dI) vwCl [(h, .inr (6, [.int mc, .ref ed, .int (nI n)]))] U.heap ∧ va_K (dC, dI) vwCl (ty0 cI cO) U)) (vp_Si (fun r => r = nI n)) 0 0 (fun _ => False) := by
  refine Met.ofW (cc := cJx4a65c_size_8abf5) (maxL := 1) (ret := (some .int)) (by decide) rfl ?_
  intro p e s m args below meth c s₁ B hml hv
  obtain ⟨rfl, hP, hK⟩ := hv
  have hx := B.exec
  have hb := B.bytes
  have hr := B.returns
  have hts := atoms_spec (ws := usJx4a65c_size_8abf5) B.pre
  have hown : s.vm.findClass RJx4a65c = some m.cls := findClass_of_methodNamed B.named
  have hlocks := B.notSynchronized
  have hl := lv_entry ([.ref h]) (n := 1) (Nat.le_of_ble_eq_true rfl)
  rw [lg_entry_eq]
  generalize (lg_sl ([.ref h]) ++ List.replicate (1 - (lg_sl ([.ref h])).length) Slot.unset).toArray = ls at hl ⊢
  have hl : lv_has ls 1 [(0, .ref h)] := hl
  refine lv_aload_n hx hb dJx4a65c_size_8abf5_0 rfl (lv_at hl 0 rfl) ?_
  refine va_get (D := (dC, dI)) (ci := 6) (v := .int (nI n)) (C := RJx4a65c) (T := TJx4a65c) (N := 3) hx hb hts inJx4a65c_size_8abf5_RJx4a65c hown hK hP 0 rfl rfl 2 (by decide) (hts (.fieldLink RJx4a65c 48 "java/util/ArrayList" "size" "I") (by decide +kernel)) (fun _ h9 => h9) rfl dJx4a65c_size_8abf5_1 ?_
  exact W.iret (v := nI n) hx hb hr (fun t ht hW => ⟨_, rfl, rfl, ht⟩) (fun q hq => by cases hq) dJx4a65c_size_8abf5_4
set_option maxHeartbeats 4000000 in
set_option maxRecDepth 100000 in
theorem p_check3 (l : Launch) (dC : Nat → ClassId) (dI : Nat → Nat → Nat) (cI cO : ClassId) (i : Nat) (n : Nat) (hi : i < n) (hn : n < 2 ^ 31) : Met l yJ3_checkIndex_8e157 usJ3_checkIndex_8e157 ({ frames := 0, cells := 0, slots := 0, locals := 0 }) (va_Pc [.int (nI i), .int (nI n), .null] (fun U => va_P (dC, dI) vwCl [] U.heap ∧ va_K (dC, dI) vwCl (ty0 cI cO) U)) (vp_Si (fun r => True)) 0 0 (fun _ => False) := by
  refine Met.ofW (cc := cJ3_checkIndex_8e157) (maxL := 3) (ret := (some .int)) (by decide) rfl ?_
  intro p e s m args below meth c s₁ B hml hv
  obtain ⟨rfl, hP, hK⟩ := hv
  have hx := B.exec
  have hb := B.bytes
  have hr := B.returns
  have hts := atoms_spec (ws := usJ3_checkIndex_8e157) B.pre
  have hown : s.vm.findClass RJ3 = some m.cls := findClass_of_methodNamed B.named
  have hlocks := B.notSynchronized
  have hl := lv_entry ([.int (nI i), .int (nI n), .null]) (n := 3) (Nat.le_of_ble_eq_true rfl)
  rw [lg_entry_eq]
  generalize (lg_sl ([.int (nI i), .int (nI n), .null]) ++ List.replicate (3 - (lg_sl ([.int (nI i), .int (nI n), .null])).length) Slot.unset).toArray = ls at hl ⊢
  have hl : lv_has ls 3 [(0, .int (nI i)), (1, .int (nI n)), (2, .null)] := hl
  refine lv_iload_n hx hb dJ3_checkIndex_8e157_0 rfl (lv_at hl 0 rfl) ?_
  refine lv_if_lt (tgt := 9) hx hb dJ3_checkIndex_8e157_1 (by decide) (fun hc1 => absurd hc1 (nI_pos (by omega))) (fun hc1 => ?_)
  refine lv_iload_n hx hb dJ3_checkIndex_8e157_4 rfl (lv_at hl 0 rfl) ?_
  refine lv_iload_n hx hb dJ3_checkIndex_8e157_5 rfl (lv_at hl 1 rfl) ?_
  refine lv_icmp_lt (tgt := 16) hx hb dJ3_checkIndex_8e157_6 (by decide) (fun hc2 => ?_) (fun hc2 => absurd (nI_lt hi hn) hc2)
  refine lv_iload_n hx hb dJ3_checkIndex_8e157_16 rfl (lv_at hl 0 rfl) ?_
  exact W.iret (v := nI i) hx hb hr (fun t ht hW => ⟨_, rfl, trivial, ht⟩) (fun q hq => by cases hq) dJ3_checkIndex_8e157_17
set_option maxHeartbeats 4000000 in
set_option maxRecDepth 100000 in
theorem p_check15 (l : Launch) (dC : Nat → ClassId) (dI : Nat → Nat → Nat) (cI cO : ClassId) (i : Nat) (n : Nat) (hi : i < n) (hn : n < 2 ^ 31) : Met l yJ15_checkIndex_7cf53 usJ15_checkIndex_7cf53 ({ frames := 1, cells := 0, slots := 0, locals := 22 }) (va_Pc [.int (nI i), .int (nI n)] (fun U => va_P (dC, dI) vwCl [] U.heap ∧ va_K (dC, dI) vwCl (ty0 cI cO) U)) (vp_Si (fun r => True)) 0 0 (fun _ => False) := by
  refine Met.ofW (cc := cJ15_checkIndex_7cf53) (maxL := 2) (ret := (some .int)) (by decide) rfl ?_
  intro p e s m args below meth c s₁ B hml hv
  obtain ⟨rfl, hP, hK⟩ := hv
  have hx := B.exec
  have hb := B.bytes
  have hr := B.returns
  have hts := atoms_spec (ws := usJ15_checkIndex_7cf53) B.pre
  have hown : s.vm.findClass RJ15 = some m.cls := findClass_of_methodNamed B.named
  have hlocks := B.notSynchronized
  have hl := lv_entry ([.int (nI i), .int (nI n)]) (n := 2) (Nat.le_of_ble_eq_true rfl)
  rw [lg_entry_eq]
  generalize (lg_sl ([.int (nI i), .int (nI n)]) ++ List.replicate (2 - (lg_sl ([.int (nI i), .int (nI n)])).length) Slot.unset).toArray = ls at hl ⊢
  have hl : lv_has ls 2 [(0, .int (nI i)), (1, .int (nI n))] := hl
  refine lv_iload_n hx hb dJ15_checkIndex_7cf53_0 rfl (lv_at hl 0 rfl) ?_
  refine lv_iload_n hx hb dJ15_checkIndex_7cf53_1 rfl (lv_at hl 1 rfl) ?_
  refine lv_null hx hb dJ15_checkIndex_7cf53_2 ?_
  have hPc : va_P (dC, dI) vwCl [] _ := hP.sub [] rfl
  refine uc_i (va_runS (As := [.int (nI i), .int (nI n), .null]) (rest := []) ⟨hx, hb, hml, hown, hts⟩ (p_check3 l dC dI cI cO i n hi hn) (va_cwS 3 hts ugJ15_checkIndex_7cf53_J3_checkIndex_8e157 rfl rfl rfl (by decide +kernel) ⟨(by first | exact Nat.le_of_ble_eq_true rfl | omega | (dsimp only [headSpec]; omega) | (simp only [headSpec]; omega) | omega), (by first | exact Nat.le_of_ble_eq_true rfl | omega | (dsimp only [headSpec]; omega) | (simp only [headSpec]; omega) | omega)⟩) ⟨fun a U g mk q => by obtain ⟨q0, qP, qK⟩ := q; exact ⟨q0, qP, va_K.moved (u := U) (U := U.calling g mk a) (Vm.Alike.refl U.vm) qK⟩, fun U hU hW => ⟨rfl, by rw [hU]; exact hPc, va_K.moved hW.alike hK⟩⟩ rfl rfl hl.1 rfl (lv_room (Nat.le_of_ble_eq_true rfl)) dJ15_checkIndex_7cf53_3 ⟨(by first | exact Nat.le_of_ble_eq_true rfl | omega | (dsimp only [headSpec]; omega) | (simp only [headSpec]; omega) | omega), (by first | exact Nat.le_of_ble_eq_true rfl | omega | (dsimp only [headSpec]; omega) | (simp only [headSpec]; omega) | omega)⟩) (fun r1 er1 => ?_)
  exact W.iret (v := r1) hx hb hr (fun t ht hW => ⟨_, rfl, trivial, ht⟩) (fun q hq => by cases hq) dJ15_checkIndex_7cf53_6
set_option maxHeartbeats 4000000 in
set_option maxRecDepth 100000 in
theorem p_aled (l : Launch) (dC : Nat → ClassId) (dI : Nat → Nat → Nat) (cI cO : ClassId) (h : Nat) (mc : Int32) (ed : Nat) (n : Nat) (N : Nat) (fq : Nat → Option Nat) (i : Nat) (x : Nat) (hi : i < n) (hn : n ≤ N) (hN : N < 2 ^ 31) (hx0 : fq i = some x) : Met l yJx4a65c_elementData_915e3 usJx4a65c_elementData_915e3 ({ frames := 0, cells := 0, slots := 0, locals := 0 }) (va_Pc [.ref h, .int (nI i)] (fun U => va_P (dC, dI) vwCl [(h, .inr (6, [.int mc, .ref ed, .int (nI n)])), wq ed cO N fq] U.heap ∧ va_K (dC, dI) vwCl (ty0 cI cO) U)) (uS_r (fun r => r = x)) 0 0 (fun _ => False) := by
  refine Met.ofW (cc := cJx4a65c_elementData_915e3) (maxL := 2) (ret := (some (.object "java/lang/Object"))) (by decide) rfl ?_
  intro p e s m args below meth c s₁ B hml hv
  obtain ⟨rfl, hP, hK⟩ := hv
  have hx := B.exec
  have hb := B.bytes
  have hr := B.returns
  have hts := atoms_spec (ws := usJx4a65c_elementData_915e3) B.pre
  have hown : s.vm.findClass RJx4a65c = some m.cls := findClass_of_methodNamed B.named
  have hlocks := B.notSynchronized
  have hl := lv_entry ([.ref h, .int (nI i)]) (n := 2) (Nat.le_of_ble_eq_true rfl)
  rw [lg_entry_eq]
  generalize (lg_sl ([.ref h, .int (nI i)]) ++ List.replicate (2 - (lg_sl ([.ref h, .int (nI i)])).length) Slot.unset).toArray = ls at hl ⊢
  have hl : lv_has ls 2 [(0, .ref h), (1, .int (nI i))] := hl
  refine lv_aload_n hx hb dJx4a65c_elementData_915e3_0 rfl (lv_at hl 0 rfl) ?_
  refine va_get (D := (dC, dI)) (ci := 6) (v := .ref ed) (C := RJx4a65c) (T := TJx4a65c) (N := 3) hx hb hts inJx4a65c_elementData_915e3_RJx4a65c hown hK hP 0 rfl rfl 1 (by decide) (hts (.fieldLink RJx4a65c 9 "java/util/ArrayList" "elementData" "[Ljava/lang/Object;") (by decide +kernel)) (fun _ h9 => h9) rfl dJx4a65c_elementData_915e3_1 ?_
  refine lv_iload_n hx hb dJx4a65c_elementData_915e3_4 rfl (lv_at hl 1 rfl) ?_
  refine va_aldq (D := (dC, dI)) hx hb hK hP 1 1 rfl rfl (vp_in_nI (by omega) hN) dJx4a65c_elementData_915e3_5 ?_
  rw [nI_clamp (by omega), hx0]
  exact W.aret (v := .ref x) hx hb hr (Or.inl ⟨_, rfl⟩) (Or.inr ⟨_, rfl⟩) (fun t ht hW => ⟨_, rfl, rfl, ht⟩) (fun q hq => by cases hq) dJx4a65c_elementData_915e3_6
set_option maxHeartbeats 4000000 in
set_option maxRecDepth 100000 in
theorem p_alget (l : Launch) (dC : Nat → ClassId) (dI : Nat → Nat → Nat) (cI cO : ClassId) (h : Nat) (mc : Int32) (ed : Nat) (n : Nat) (N : Nat) (fq : Nat → Option Nat) (i : Nat) (x : Nat) (hi : i < n) (hn : n ≤ N) (hN : N < 2 ^ 31) (hx0 : fq i = some x) : Met l yJx4a65c_get_915e3 usJx4a65c_get_915e3 ({ frames := 2, cells := 0, slots := 0, locals := 43 }) (va_Pc [.ref h, .int (nI i)] (fun U => va_P (dC, dI) vwCl [(h, .inr (6, [.int mc, .ref ed, .int (nI n)])), wq ed cO N fq] U.heap ∧ va_K (dC, dI) vwCl (ty0 cI cO) U)) (uS_r (fun r => r = x)) 0 0 (fun _ => False) := by
  refine Met.ofW (cc := cJx4a65c_get_915e3) (maxL := 2) (ret := (some (.object "java/lang/Object"))) (by decide) rfl ?_
  intro p e s m args below meth c s₁ B hml hv
  obtain ⟨rfl, hP, hK⟩ := hv
  have hx := B.exec
  have hb := B.bytes
  have hr := B.returns
  have hts := atoms_spec (ws := usJx4a65c_get_915e3) B.pre
  have hown : s.vm.findClass RJx4a65c = some m.cls := findClass_of_methodNamed B.named
  have hlocks := B.notSynchronized
  have hl := lv_entry ([.ref h, .int (nI i)]) (n := 2) (Nat.le_of_ble_eq_true rfl)
  rw [lg_entry_eq]
  generalize (lg_sl ([.ref h, .int (nI i)]) ++ List.replicate (2 - (lg_sl ([.ref h, .int (nI i)])).length) Slot.unset).toArray = ls at hl ⊢
  have hl : lv_has ls 2 [(0, .ref h), (1, .int (nI i))] := hl
  refine lv_iload_n hx hb dJx4a65c_get_915e3_0 rfl (lv_at hl 1 rfl) ?_
  refine lv_aload_n hx hb dJx4a65c_get_915e3_1 rfl (lv_at hl 0 rfl) ?_
  refine va_get (D := (dC, dI)) (ci := 6) (v := .int (nI n)) (C := RJx4a65c) (T := TJx4a65c) (N := 3) hx hb hts inJx4a65c_get_915e3_RJx4a65c hown hK hP 0 rfl rfl 2 (by decide) (hts (.fieldLink RJx4a65c 48 "java/util/ArrayList" "size" "I") (by decide +kernel)) (fun _ h9 => h9) rfl dJx4a65c_get_915e3_2 ?_
  have hPc : va_P (dC, dI) vwCl [] _ := hP.sub [] rfl
  refine uc_i (va_runS (As := [.int (nI i), .int (nI n)]) (rest := []) ⟨hx, hb, hml, hown, hts⟩ (p_check15 l dC dI cI cO i n hi (by omega)) (va_cwS 2 hts ugJx4a65c_get_915e3_J15_checkIndex_7cf53 rfl rfl rfl (by decide +kernel) ⟨(by first | exact Nat.le_of_ble_eq_true rfl | omega | (dsimp only [headSpec]; omega) | (simp only [headSpec]; omega) | omega), (by first | exact Nat.le_of_ble_eq_true rfl | omega | (dsimp only [headSpec]; omega) | (simp only [headSpec]; omega) | omega)⟩) ⟨fun a U g mk q => by obtain ⟨q0, qP, qK⟩ := q; exact ⟨q0, qP, va_K.moved (u := U) (U := U.calling g mk a) (Vm.Alike.refl U.vm) qK⟩, fun U hU hW => ⟨rfl, by rw [hU]; exact hPc, va_K.moved hW.alike hK⟩⟩ rfl rfl hl.1 rfl (lv_room (Nat.le_of_ble_eq_true rfl)) dJx4a65c_get_915e3_5 ⟨(by first | exact Nat.le_of_ble_eq_true rfl | omega | (dsimp only [headSpec]; omega) | (simp only [headSpec]; omega) | omega), (by first | exact Nat.le_of_ble_eq_true rfl | omega | (dsimp only [headSpec]; omega) | (simp only [headSpec]; omega) | omega)⟩) (fun r1 er1 => ?_)
  refine lv_pop hx hb dJx4a65c_get_915e3_8 rfl ?_
  refine lv_aload_n hx hb dJx4a65c_get_915e3_9 rfl (lv_at hl 0 rfl) ?_
  refine lv_iload_n hx hb dJx4a65c_get_915e3_10 rfl (lv_at hl 1 rfl) ?_
  have hPc : va_P (dC, dI) vwCl [(h, .inr (6, [.int mc, .ref ed, .int (nI n)])), wq ed cO N fq] _ := hP.sub [0, 1] rfl
  refine uc_r (va_runV (As := [.int (nI i)]) (rest := []) ⟨hx, hb, hml, hown, hts⟩ (p_aled l dC dI cI cO h mc ed n N fq i x hi hn hN hx0) (cwV 1 hts ugJx4a65c_get_915e3_Jx4a65c_elementData_915e3 rfl rfl rfl (by decide +kernel) ⟨(by first | exact Nat.le_of_ble_eq_true rfl | omega | (dsimp only [headSpec]; omega) | (simp only [headSpec]; omega) | omega), (by first | exact Nat.le_of_ble_eq_true rfl | omega | (dsimp only [headSpec]; omega) | (simp only [headSpec]; omega) | omega)⟩) ⟨fun a U g mk q => by obtain ⟨q0, qP, qK⟩ := q; exact ⟨q0, qP, va_K.moved (u := U) (U := U.calling g mk a) (Vm.Alike.refl U.vm) qK⟩, va_recv hK hPc (ci := 6) (q0 := 0) rfl rfl, fun U hU hW => ⟨rfl, by rw [hU]; exact hPc, va_K.moved hW.alike hK⟩⟩ rfl rfl hl.1 rfl (lv_room (Nat.le_of_ble_eq_true rfl)) dJx4a65c_get_915e3_11 ⟨(by first | exact Nat.le_of_ble_eq_true rfl | omega | (dsimp only [headSpec]; omega) | (simp only [headSpec]; omega) | omega), (by first | exact Nat.le_of_ble_eq_true rfl | omega | (dsimp only [headSpec]; omega) | (simp only [headSpec]; omega) | omega)⟩) (fun r2 er2 => ?_)
  exact W.aret (v := .ref r2) hx hb hr (Or.inl ⟨_, rfl⟩) (Or.inr ⟨_, rfl⟩) (fun t ht hW => ⟨_, rfl, er2, ht⟩) (fun q hq => by cases hq) dJx4a65c_get_915e3_14
set_option maxHeartbeats 4000000 in
set_option maxRecDepth 100000 in
theorem c_algrowI (l : Launch) (dC : Nat → ClassId) (dI : Nat → Nat → Nat) (cI cO : ClassId) (z0 : Nat) (sz : Nat) (h : Nat) (mc : Int32) : Met l yJx4a65c_grow_92f84 usJx4a65c_grow_92f84 ({ frames := 1, cells := 1, slots := 10, locals := 20 }) (va_Pc [.ref h, .int (nI 1)] (fun U => U.heap.size = sz ∧ va_P (dC, dI) vwCl [(h, .inr (6, [.int mc, .ref z0, .int (nI 0)]))] U.heap ∧ va_K (dC, dI) vwCl (ty0 cI cO) U ∧ va_D (fun _ => True) [(h, .inr (6, [.int mc, .ref z0, .int (nI 0)]))] ∧ uz z0 (va_A [(h, .inr (6, [.int mc, .ref z0, .int (nI 0)]))] sz) U)) (va_Qr (fun _ : Unit => True) (fun _ ra t => va_P (dC, dI) vwCl [(h, .inr (6, [.int mc, .ref ra, .int (nI 0)])), wq ra cO 10 (fun _ => none)] t.heap ∧ va_K (dC, dI) vwCl (ty0 cI cO) t ∧ va_D (va_A [(h, .inr (6, [.int mc, .ref z0, .int (nI 0)]))] sz) [(h, .inr (6, [.int mc, .ref ra, .int (nI 0)])), wq ra cO 10 (fun _ => none)]) (va_A [(h, .inr (6, [.int mc, .ref z0, .int (nI 0)]))] sz)) 1 10 (va_A [(h, .inr (6, [.int mc, .ref z0, .int (nI 0)]))] sz) := by
  refine Met.ofW (cc := cJx4a65c_grow_92f84) (maxL := 4) (ret := (some (.array (.object "java/lang/Object")))) (by decide) rfl ?_
  intro p e s m args below meth c s₁ B hml hv
  obtain ⟨rfl, hsz, hP, hK, hD0, hZ⟩ := hv
  have hx := B.exec
  have hb := B.bytes
  have hr := B.returns
  have hts := atoms_spec (ws := usJx4a65c_grow_92f84) B.pre
  have hown : s.vm.findClass RJx4a65c = some m.cls := findClass_of_methodNamed B.named
  have hlocks := B.notSynchronized
  subst hsz
  have hD := hD0.self (sz := s.heap.size)
  generalize hAe : va_A [(h, .inr (6, [.int mc, .ref z0, .int (nI 0)]))] s.heap.size = A at hD hZ ⊢
  have hA : ∀ q : Nat, s.heap.size ≤ q → A q := fun q h => by rw [← hAe]; exact Or.inr h
  have hS : va_S A s.heap s.heap [] := va_S.rf
  obtain ⟨hZs, ⟨fz, hZt⟩, hZo, hZr, hZi, hZc⟩ := id hZ
  have hl := lv_entry ([.ref h, .int (nI 1)]) (n := 4) (Nat.le_of_ble_eq_true rfl)
  rw [lg_entry_eq]
  generalize (lg_sl ([.ref h, .int (nI 1)]) ++ List.replicate (4 - (lg_sl ([.ref h, .int (nI 1)])).length) Slot.unset).toArray = ls at hl ⊢
  have hl : lv_has ls 4 [(0, .ref h), (1, .int (nI 1))] := hl
  refine lv_aload_n hx hb dJx4a65c_grow_92f84_0 rfl (lv_at hl 0 rfl) ?_
  refine va_get (D := (dC, dI)) (ci := 6) (v := .ref z0) (C := RJx4a65c) (T := TJx4a65c) (N := 3) hx hb hts inJx4a65c_grow_92f84_RJx4a65c hown hK hP 0 rfl rfl 1 (by decide) (hts (.fieldLink RJx4a65c 9 "java/util/ArrayList" "elementData" "[Ljava/lang/Object;") (by decide +kernel)) (fun _ h9 => h9) rfl dJx4a65c_grow_92f84_1 ?_
  refine va_tlen hx hb hZt hS rfl dJx4a65c_grow_92f84_4 ?_
  refine lv_istore_n (lv' := [(2, .int (nI 0)), (0, .ref h), (1, .int (nI 1))]) hx hb dJx4a65c_grow_92f84_5 rfl hl (by decide) rfl (fun ls hl => ?_)
  refine lv_iload_n hx hb dJx4a65c_grow_92f84_6 rfl (lv_at hl 0 rfl) ?_
  refine lv_if_gt (tgt := 20) hx hb dJx4a65c_grow_92f84_7 (by decide) (fun hc1 => absurd hc1 (by decide)) (fun hc1 => ?_)
  refine lv_aload_n hx hb dJx4a65c_grow_92f84_10 rfl (lv_at hl 1 rfl) ?_
  refine va_get (D := (dC, dI)) (ci := 6) (v := .ref z0) (C := RJx4a65c) (T := TJx4a65c) (N := 3) hx hb hts inJx4a65c_grow_92f84_RJx4a65c hown hK hP 0 rfl rfl 1 (by decide) (hts (.fieldLink RJx4a65c 9 "java/util/ArrayList" "elementData" "[Ljava/lang/Object;") (by decide +kernel)) (fun _ h9 => h9) rfl dJx4a65c_grow_92f84_11 ?_
  refine va_gets hx hb hZs hS hown (hts (.fieldLink RJx4a65c 39 "java/util/ArrayList" "DEFAULTCAPACITY_EMPTY_ELEMENTDATA" "[Ljava/lang/Object;") (by decide +kernel)) (fun _ h9 => h9) dJx4a65c_grow_92f84_14 ?_
  refine lv_acmp_eq (rx := some z0) (ry := some z0) (tgt := 45) hx hb dJx4a65c_grow_92f84_17 (by decide) (fun _ => ?_) (fun hc => absurd rfl hc)
  refine lv_aload_n hx hb dJx4a65c_grow_92f84_45 rfl (lv_at hl 1 rfl) ?_
  refine lv_bipush (v := nI 10) hx hb dJx4a65c_grow_92f84_46 (by decide) ?_
  refine lv_iload_n hx hb dJx4a65c_grow_92f84_48 rfl (lv_at hl 2 rfl) ?_
  refine va_mmax hx hb (hml.trans hl.1.symm) hown (hts (.methodLink RJx4a65c 79 Lib.Math.max.name) (by decide +kernel)) (hts (.static Lib.Math.max.name) (by decide +kernel)) (hts (.initialized "java/lang/Math") (by decide +kernel)) (hts _ (List.mem_of_getElem? (i := 6) rfl)) (by first | exact Nat.le_of_ble_eq_true rfl | omega | (dsimp only [headSpec]; omega) | (simp only [headSpec]; omega) | omega) (by first | exact Nat.le_of_ble_eq_true rfl | omega | (dsimp only [headSpec]; omega) | (simp only [headSpec]; omega) | omega) (by first | exact Nat.le_of_ble_eq_true rfl | omega | (dsimp only [headSpec]; omega) | (simp only [headSpec]; omega) | omega) (by first | exact Nat.le_of_ble_eq_true rfl | omega | (dsimp only [headSpec]; omega) | (simp only [headSpec]; omega) | omega) dJx4a65c_grow_92f84_49 ?_
  rw [if_neg (nI_nlt (a := 10) (b := 1) (by omega) (by omega))]
  refine va_newq (D := (dC, dI)) (N' := 10) hx hb hown (hts (.classLink RJx4a65c 7 "java/lang/Object") (by decide +kernel)) hZo hK hP hD hS hA (by decide) (by decide) (by decide) (by first | exact Nat.le_of_ble_eq_true rfl | omega | (dsimp only [headSpec]; omega) | (simp only [headSpec]; omega) | omega) (by first | exact Nat.le_of_ble_eq_true rfl | omega | (dsimp only [headSpec]; omega) | (simp only [headSpec]; omega) | omega) dJx4a65c_grow_92f84_52 (fun ra cO2 H hK2 hP hD hS => ?_)
  obtain rfl := uc_eqO hK2 1 2 rfl rfl
  have hP : va_P (dC, dI) vwCl [(h, .inr (6, [.int mc, .ref z0, .int (nI 0)])), wq ra cO 10 (fun _ => none)] H := hP
  have hD : va_D A [(h, .inr (6, [.int mc, .ref z0, .int (nI 0)])), wq ra cO 10 (fun _ => none)] := hD
  refine W.widen (k := 1) (n := 10) (by first | exact Nat.le_of_ble_eq_true rfl | omega | (dsimp only [headSpec]; omega) | (simp only [headSpec]; omega) | omega) (by first | exact Nat.le_of_ble_eq_true rfl | omega | (dsimp only [headSpec]; omega) | (simp only [headSpec]; omega) | omega) ?_
  refine lv_dup_x1 hx hb dJx4a65c_grow_92f84_55 rfl rfl ?_
  refine va_put (D := (dC, dI)) (ci := 6) (v := .ref ra) (ty := .array (.object "java/lang/Object")) (C := RJx4a65c) (T := TJx4a65c) (N := 3) hx hb hts inJx4a65c_grow_92f84_RJx4a65c tyJx4a65c tyJx4a65c_ok nmJx4a65c hown hK hP hD hS 0 rfl rfl 1 (by decide) (hts (.fieldLink RJx4a65c 9 "java/util/ArrayList" "elementData" "[Ljava/lang/Object;") (by decide +kernel)) (fun _ h9 => h9) rfl (by decide +kernel) rfl rfl (Nat.le_of_ble_eq_true rfl) dJx4a65c_grow_92f84_56 (fun H locs hP hD hS => ?_)
  have hP : va_P (dC, dI) vwCl [(h, .inr (6, [.int mc, .ref ra, .int (nI 0)])), wq ra cO 10 (fun _ => none)] H := hP
  have hD : va_D A [(h, .inr (6, [.int mc, .ref ra, .int (nI 0)])), wq ra cO 10 (fun _ => none)] := hD
  have hPe : va_P (dC, dI) vwCl [(h, .inr (6, [.int mc, .ref ra, .int (nI 0)])), wq ra cO 10 (fun _ => none)] _ := hP.sub [0, 1] rfl
  have hDe : va_D A [(h, .inr (6, [.int mc, .ref ra, .int (nI 0)])), wq ra cO 10 (fun _ => none)] := hD.sub [0, 1] (by decide) rfl
  refine W.widen (k := 1) (n := 10) (by first | exact Nat.le_of_ble_eq_true rfl | omega | (dsimp only [headSpec]; omega) | (simp only [headSpec]; omega) | omega) (by first | exact Nat.le_of_ble_eq_true rfl | omega | (dsimp only [headSpec]; omega) | (simp only [headSpec]; omega) | omega) ?_
  exact W.aret (v := .ref ra) hx hb hr (Or.inr ⟨_, rfl⟩) (Or.inr ⟨_, rfl⟩) (fun t ht hW => ⟨⟨(), _, rfl, trivial, by rw [ht]; exact hPe, va_K.moved hW.alike hK, hDe⟩, hS.F ht⟩) hS.2.2 dJx4a65c_grow_92f84_59
set_option maxHeartbeats 4000000 in
set_option maxRecDepth 100000 in
theorem c_algrow (l : Launch) (dC : Nat → ClassId) (dI : Nat → Nat → Nat) (cI cO : ClassId) (z0 : Nat) (sz : Nat) (h : Nat) (mc : Int32) : Met l yJx4a65c_grow_d5877 usJx4a65c_grow_d5877 ({ frames := 2, cells := 1, slots := 10, locals := 43 }) (va_Pc [.ref h] (fun U => U.heap.size = sz ∧ va_P (dC, dI) vwCl [(h, .inr (6, [.int mc, .ref z0, .int (nI 0)]))] U.heap ∧ va_K (dC, dI) vwCl (ty0 cI cO) U ∧ va_D (fun _ => True) [(h, .inr (6, [.int mc, .ref z0, .int (nI 0)]))] ∧ uz z0 (va_A [(h, .inr (6, [.int mc, .ref z0, .int (nI 0)]))] sz) U)) (va_Qr (fun _ : Unit => True) (fun _ ra t => va_P (dC, dI) vwCl [(h, .inr (6, [.int mc, .ref ra, .int (nI 0)])), wq ra cO 10 (fun _ => none)] t.heap ∧ va_K (dC, dI) vwCl (ty0 cI cO) t ∧ va_D (va_A [(h, .inr (6, [.int mc, .ref z0, .int (nI 0)]))] sz) [(h, .inr (6, [.int mc, .ref ra, .int (nI 0)])), wq ra cO 10 (fun _ => none)]) (va_A [(h, .inr (6, [.int mc, .ref z0, .int (nI 0)]))] sz)) 1 10 (va_A [(h, .inr (6, [.int mc, .ref z0, .int (nI 0)]))] sz) := by
  refine Met.ofW (cc := cJx4a65c_grow_d5877) (maxL := 1) (ret := (some (.array (.object "java/lang/Object")))) (by decide) rfl ?_
  intro p e s m args below meth c s₁ B hml hv
  obtain ⟨rfl, hsz, hP, hK, hD0, hZ⟩ := hv
  have hx := B.exec
  have hb := B.bytes
  have hr := B.returns
  have hts := atoms_spec (ws := usJx4a65c_grow_d5877) B.pre
  have hown : s.vm.findClass RJx4a65c = some m.cls := findClass_of_methodNamed B.named
  have hlocks := B.notSynchronized
  subst hsz
  have hD := hD0.self (sz := s.heap.size)
  generalize hAe : va_A [(h, .inr (6, [.int mc, .ref z0, .int (nI 0)]))] s.heap.size = A at hD hZ ⊢
  have hA : ∀ q : Nat, s.heap.size ≤ q → A q := fun q h => by rw [← hAe]; exact Or.inr h
  have hS : va_S A s.heap s.heap [] := va_S.rf
  obtain ⟨hZs, ⟨fz, hZt⟩, hZo, hZr, hZi, hZc⟩ := id hZ
  have hl := lv_entry ([.ref h]) (n := 1) (Nat.le_of_ble_eq_true rfl)
  rw [lg_entry_eq]
  generalize (lg_sl ([.ref h]) ++ List.replicate (1 - (lg_sl ([.ref h])).length) Slot.unset).toArray = ls at hl ⊢
  have hl : lv_has ls 1 [(0, .ref h)] := hl
  refine lv_aload_n hx hb dJx4a65c_grow_d5877_0 rfl (lv_at hl 0 rfl) ?_
  refine lv_aload_n hx hb dJx4a65c_grow_d5877_1 rfl (lv_at hl 0 rfl) ?_
  refine va_get (D := (dC, dI)) (ci := 6) (v := .int (nI 0)) (C := RJx4a65c) (T := TJx4a65c) (N := 3) hx hb hts inJx4a65c_grow_d5877_RJx4a65c hown hK hP 0 rfl rfl 2 (by decide) (hts (.fieldLink RJx4a65c 48 "java/util/ArrayList" "size" "I") (by decide +kernel)) (fun _ h9 => h9) rfl dJx4a65c_grow_d5877_2 ?_
  refine lv_iconst (v := nI 1) hx hb dJx4a65c_grow_d5877_5 (by decide) ?_
  refine lv_iadd hx hb dJx4a65c_grow_d5877_6 ?_
  refine lv_topi (fun y_1 ey_1 => ?_)
  have h_2 : y_1 = nI 1 := ey_1.trans (nI_add 0 1)
  subst h_2
  have hPc : va_P (dC, dI) vwCl [(h, .inr (6, [.int mc, .ref z0, .int (nI 0)]))] _ := hP.sub [0] rfl
  have hDc : va_D _ [(h, .inr (6, [.int mc, .ref z0, .int (nI 0)]))] := hD.sub [0] (by decide) rfl
  have hFc := va_free (wc := [(h, .inr (6, [.int mc, .ref z0, .int (nI 0)]))]) hD hS hA [0] rfl
  refine va_callr (va_runV (As := [.int (nI 1)]) (rest := []) ⟨hx, hb, hml, hown, hts⟩ (c_algrowI l dC dI cI cO z0 s.heap.size h mc) (cwV 1 hts ugJx4a65c_grow_d5877_Jx4a65c_grow_92f84 rfl rfl rfl (by decide +kernel) ⟨(by first | exact Nat.le_of_ble_eq_true rfl | omega | (dsimp only [headSpec]; omega) | (simp only [headSpec]; omega) | omega), (by first | exact Nat.le_of_ble_eq_true rfl | omega | (dsimp only [headSpec]; omega) | (simp only [headSpec]; omega) | omega)⟩) ⟨fun a U g mk q => by obtain ⟨q0, q1, qP, qK, qD, qZ⟩ := q; exact ⟨q0, q1, qP, va_K.moved (u := U) (U := U.calling g mk a) (Vm.Alike.refl U.vm) qK, qD, qZ.moved (Vm.Alike.refl U.vm) rfl⟩, va_recv hK hPc (ci := 6) (q0 := 0) rfl rfl, fun U hU hW => ⟨rfl, by rw [hU], by rw [hU]; exact hPc, va_K.moved hW.alike hK, hDc.weaken (fun _ _ _ _ => trivial), uz_call hZ hS hFc hU hW.alike⟩⟩ rfl rfl hl.1 rfl (lv_room (Nat.le_of_ble_eq_true rfl)) dJx4a65c_grow_d5877_7 ⟨(by first | exact Nat.le_of_ble_eq_true rfl | omega | (dsimp only [headSpec]; omega) | (simp only [headSpec]; omega) | omega), (by first | exact Nat.le_of_ble_eq_true rfl | omega | (dsimp only [headSpec]; omega) | (simp only [headSpec]; omega) | omega)⟩) hS (fun q _ h => hFc q h) hFc (fun u ra t H locs ht hvm hw hB hz1 hk1 hS => ?_)
  obtain ⟨hP1, hK1, hD1⟩ := hB
  rw [ht] at hP1
  obtain ⟨hP, hD⟩ := va_join (wr := []) (w1 := [(h, .inr (6, [.int mc, .ref ra, .int (nI 0)])), wq ra cO 10 (fun _ => none)]) hP hD [0] [] rfl rfl (by decide) (by decide) hk1 hFc hP1 hD1
  have hP : va_P (dC, dI) vwCl [(h, .inr (6, [.int mc, .ref ra, .int (nI 0)])), wq ra cO 10 (fun _ => none)] H := hP
  have hD : va_D A [(h, .inr (6, [.int mc, .ref ra, .int (nI 0)])), wq ra cO 10 (fun _ => none)] := hD
  refine W.widen (k := 1) (n := 10) (by first | exact Nat.le_of_ble_eq_true rfl | omega | (dsimp only [headSpec]; omega) | (simp only [headSpec]; omega) | omega) (by first | exact Nat.le_of_ble_eq_true rfl | omega | (dsimp only [headSpec]; omega) | (simp only [headSpec]; omega) | omega) ?_
  have hPe : va_P (dC, dI) vwCl [(h, .inr (6, [.int mc, .ref ra, .int (nI 0)])), wq ra cO 10 (fun _ => none)] _ := hP.sub [0, 1] rfl
  have hDe : va_D A [(h, .inr (6, [.int mc, .ref ra, .int (nI 0)])), wq ra cO 10 (fun _ => none)] := hD.sub [0, 1] (by decide) rfl
  refine W.widen (k := 1) (n := 10) (by first | exact Nat.le_of_ble_eq_true rfl | omega | (dsimp only [headSpec]; omega) | (simp only [headSpec]; omega) | omega) (by first | exact Nat.le_of_ble_eq_true rfl | omega | (dsimp only [headSpec]; omega) | (simp only [headSpec]; omega) | omega) ?_
  exact W.aret (v := .ref ra) hx hb hr (Or.inr ⟨_, rfl⟩) (Or.inr ⟨_, rfl⟩) (fun t ht hW => ⟨⟨(), _, rfl, trivial, by rw [ht]; exact hPe, va_K.moved hW.alike hK, hDe⟩, hS.F ht⟩) hS.2.2 dJx4a65c_grow_d5877_10
set_option maxHeartbeats 4000000 in
set_option maxRecDepth 100000 in
theorem c_aladd3o (l : Launch) (dC : Nat → ClassId) (dI : Nat → Nat → Nat) (cI cO : ClassId) (z0 : Nat) (sz : Nat) (h : Nat) (mc : Int32) (x : Nat) (xc : Nat) (xn : Int32) : Met l yJx4a65c_add_72be8 usJx4a65c_add_72be8 ({ frames := 3, cells := 1, slots := 10, locals := 63 }) (va_Pc [.ref h, .ref x, .ref z0, .int (nI 0)] (fun U => U.heap.size = sz ∧ va_P (dC, dI) vwCl [(h, .inr (6, [.int mc, .ref z0, .int (nI 0)])), (x, .inr (13, [.ref xc, .int xn]))] U.heap ∧ va_K (dC, dI) vwCl (ty0 cI cO) U ∧ va_D (fun _ => True) [(h, .inr (6, [.int mc, .ref z0, .int (nI 0)])), (x, .inr (13, [.ref xc, .int xn]))] ∧ uz z0 (va_A [(h, .inr (6, [.int mc, .ref z0, .int (nI 0)])), (x, .inr (13, [.ref xc, .int xn]))] sz) U)) (va_Qv (fun _ : Unit => True) (fun _ t => ∃ (ed : Nat), ∃ (fq : Nat → Option Nat), (fq 0 = some x) ∧ va_P (dC, dI) vwCl [(h, .inr (6, [.int mc, .ref ed, .int (nI 1)])), (x, .inr (13, [.ref xc, .int xn])), wq ed cO 10 fq] t.heap ∧ va_K (dC, dI) vwCl (ty0 cI cO) t ∧ va_D (va_A [(h, .inr (6, [.int mc, .ref z0, .int (nI 0)])), (x, .inr (13, [.ref xc, .int xn]))] sz) [(h, .inr (6, [.int mc, .ref ed, .int (nI 1)])), (x, .inr (13, [.ref xc, .int xn])), wq ed cO 10 fq]) (va_A [(h, .inr (6, [.int mc, .ref z0, .int (nI 0)])), (x, .inr (13, [.ref xc, .int xn]))] sz)) 1 10 (va_A [(h, .inr (6, [.int mc, .ref z0, .int (nI 0)])), (x, .inr (13, [.ref xc, .int xn]))] sz) := by
  refine Met.ofW (cc := cJx4a65c_add_72be8) (maxL := 4) (ret := none) (by decide) rfl ?_
  intro p e s m args below meth c s₁ B hml hv
  obtain ⟨rfl, hsz, hP, hK, hD0, hZ⟩ := hv
  have hx := B.exec
  have hb := B.bytes
  have hr := B.returns
  have hts := atoms_spec (ws := usJx4a65c_add_72be8) B.pre
  have hown : s.vm.findClass RJx4a65c = some m.cls := findClass_of_methodNamed B.named
  have hlocks := B.notSynchronized
  subst hsz
  have hD := hD0.self (sz := s.heap.size)
  generalize hAe : va_A [(h, .inr (6, [.int mc, .ref z0, .int (nI 0)])), (x, .inr (13, [.ref xc, .int xn]))] s.heap.size = A at hD hZ ⊢
  have hA : ∀ q : Nat, s.heap.size ≤ q → A q := fun q h => by rw [← hAe]; exact Or.inr h
  have hS : va_S A s.heap s.heap [] := va_S.rf
  obtain ⟨hZs, ⟨fz, hZt⟩, hZo, hZr, hZi, hZc⟩ := id hZ
  have hl := lv_entry ([.ref h, .ref x, .ref z0, .int (nI 0)]) (n := 4) (Nat.le_of_ble_eq_true rfl)
  rw [lg_entry_eq]
  generalize (lg_sl ([.ref h, .ref x, .ref z0, .int (nI 0)]) ++ List.replicate (4 - (lg_sl ([.ref h, .ref x, .ref z0, .int (nI 0)])).length) Slot.unset).toArray = ls at hl ⊢
  have hl : lv_has ls 4 [(0, .ref h), (1, .ref x), (2, .ref z0), (3, .int (nI 0))] := hl
  refine lv_iload_n hx hb dJx4a65c_add_72be8_0 rfl (lv_at hl 3 rfl) ?_
  refine lv_aload_n hx hb dJx4a65c_add_72be8_1 rfl (lv_at hl 2 rfl) ?_
  refine va_tlen hx hb hZt hS rfl dJx4a65c_add_72be8_2 ?_
  refine lv_icmp_ne (tgt := 11) hx hb dJx4a65c_add_72be8_3 (by decide) (fun hc1 => absurd rfl hc1) (fun hc1 => ?_)
  refine lv_aload_n hx hb dJx4a65c_add_72be8_6 rfl (lv_at hl 0 rfl) ?_
  have hPc : va_P (dC, dI) vwCl [(h, .inr (6, [.int mc, .ref z0, .int (nI 0)]))] _ := hP.sub [0] rfl
  have hDc : va_D _ [(h, .inr (6, [.int mc, .ref z0, .int (nI 0)]))] := hD.sub [0] (by decide) rfl
  have hFc := va_free (wc := [(h, .inr (6, [.int mc, .ref z0, .int (nI 0)]))]) hD hS hA [0] rfl
  refine va_callr (va_runV (As := []) (rest := []) ⟨hx, hb, hml, hown, hts⟩ (c_algrow l dC dI cI cO z0 s.heap.size h mc) (cwV 0 hts ugJx4a65c_add_72be8_Jx4a65c_grow_d5877 rfl rfl rfl (by decide +kernel) ⟨(by first | exact Nat.le_of_ble_eq_true rfl | omega | (dsimp only [headSpec]; omega) | (simp only [headSpec]; omega) | omega), (by first | exact Nat.le_of_ble_eq_true rfl | omega | (dsimp only [headSpec]; omega) | (simp only [headSpec]; omega) | omega)⟩) ⟨fun a U g mk q => by obtain ⟨q0, q1, qP, qK, qD, qZ⟩ := q; exact ⟨q0, q1, qP, va_K.moved (u := U) (U := U.calling g mk a) (Vm.Alike.refl U.vm) qK, qD, qZ.moved (Vm.Alike.refl U.vm) rfl⟩, va_recv hK hPc (ci := 6) (q0 := 0) rfl rfl, fun U hU hW => ⟨rfl, by rw [hU], by rw [hU]; exact hPc, va_K.moved hW.alike hK, hDc.weaken (fun _ _ _ _ => trivial), uz_call hZ hS hFc hU hW.alike⟩⟩ rfl rfl hl.1 rfl (lv_room (Nat.le_of_ble_eq_true rfl)) dJx4a65c_add_72be8_7 ⟨(by first | exact Nat.le_of_ble_eq_true rfl | omega | (dsimp only [headSpec]; omega) | (simp only [headSpec]; omega) | omega), (by first | exact Nat.le_of_ble_eq_true rfl | omega | (dsimp only [headSpec]; omega) | (simp only [headSpec]; omega) | omega)⟩) hS (fun q _ h => hFc q h) hFc (fun u ed t H locs ht hvm hw hB hz1 hk1 hS => ?_)
  obtain ⟨hP1, hK1, hD1⟩ := hB
  rw [ht] at hP1
  obtain ⟨hP, hD⟩ := va_join (wr := [(x, .inr (13, [.ref xc, .int xn]))]) (w1 := [(h, .inr (6, [.int mc, .ref ed, .int (nI 0)])), wq ed cO 10 (fun _ => none)]) hP hD [0] [1] rfl rfl (by decide) (by decide) hk1 hFc hP1 hD1
  have hP : va_P (dC, dI) vwCl [(x, .inr (13, [.ref xc, .int xn])), (h, .inr (6, [.int mc, .ref ed, .int (nI 0)])), wq ed cO 10 (fun _ => none)] H := hP
  have hD : va_D A [(x, .inr (13, [.ref xc, .int xn])), (h, .inr (6, [.int mc, .ref ed, .int (nI 0)])), wq ed cO 10 (fun _ => none)] := hD
  refine W.widen (k := 1) (n := 10) (by first | exact Nat.le_of_ble_eq_true rfl | omega | (dsimp only [headSpec]; omega) | (simp only [headSpec]; omega) | omega) (by first | exact Nat.le_of_ble_eq_true rfl | omega | (dsimp only [headSpec]; omega) | (simp only [headSpec]; omega) | omega) ?_
  refine lv_astore_n (lv' := [(2, .ref ed), (0, .ref h), (1, .ref x), (3, .int (nI 0))]) hx hb dJx4a65c_add_72be8_10 rfl hl (by decide) rfl (fun ls hl => ?_)
  refine lv_aload_n hx hb dJx4a65c_add_72be8_11 rfl (lv_at hl 0 rfl) ?_
  refine lv_iload_n hx hb dJx4a65c_add_72be8_12 rfl (lv_at hl 3 rfl) ?_
  refine lv_aload_n hx hb dJx4a65c_add_72be8_13 rfl (lv_at hl 2 rfl) ?_
  refine va_astqM (D := (dC, dI)) hx hb hK hP hD hS 2 1 rfl rfl (va_rAny hK hP (q0 := 0) rfl rfl hZr) (vp_in_nI (by omega) (by omega)) dJx4a65c_add_72be8_14 (fun H locs hP hD hS => ?_)
  have hP : va_P (dC, dI) vwCl [(x, .inr (13, [.ref xc, .int xn])), (h, .inr (6, [.int mc, .ref ed, .int (nI 0)])), wq ed cO 10 (va_up (fun _ => none) (nI 0).toNatClampNeg (some x))] H := hP
  have hD : va_D A [(x, .inr (13, [.ref xc, .int xn])), (h, .inr (6, [.int mc, .ref ed, .int (nI 0)])), wq ed cO 10 (va_up (fun _ => none) (nI 0).toNatClampNeg (some x))] := hD
  refine lv_aload_n hx hb dJx4a65c_add_72be8_15 rfl (lv_at hl 1 rfl) ?_
  refine lv_iload_n hx hb dJx4a65c_add_72be8_16 rfl (lv_at hl 3 rfl) ?_
  refine lv_iconst (v := nI 1) hx hb dJx4a65c_add_72be8_17 (by decide) ?_
  refine lv_iadd hx hb dJx4a65c_add_72be8_18 ?_
  refine lv_topi (fun y_1 ey_1 => ?_)
  have h_2 : y_1 = nI 1 := ey_1.trans (nI_add 0 1)
  subst h_2
  refine va_put (D := (dC, dI)) (ci := 6) (v := .int (nI 1)) (ty := .int) (C := RJx4a65c) (T := TJx4a65c) (N := 3) hx hb hts inJx4a65c_add_72be8_RJx4a65c tyJx4a65c tyJx4a65c_ok nmJx4a65c hown hK hP hD hS 1 rfl rfl 2 (by decide) (hts (.fieldLink RJx4a65c 48 "java/util/ArrayList" "size" "I") (by decide +kernel)) (fun _ h9 => h9) rfl (by decide +kernel) rfl rfl (Nat.le_of_ble_eq_true rfl) dJx4a65c_add_72be8_19 (fun H locs hP hD hS => ?_)
  have hP : va_P (dC, dI) vwCl [(x, .inr (13, [.ref xc, .int xn])), (h, .inr (6, [.int mc, .ref ed, .int (nI 1)])), wq ed cO 10 (va_up (fun _ => none) (nI 0).toNatClampNeg (some x))] H := hP
  have hD : va_D A [(x, .inr (13, [.ref xc, .int xn])), (h, .inr (6, [.int mc, .ref ed, .int (nI 1)])), wq ed cO 10 (va_up (fun _ => none) (nI 0).toNatClampNeg (some x))] := hD
  have hPe : va_P (dC, dI) vwCl [(h, .inr (6, [.int mc, .ref ed, .int (nI 1)])), (x, .inr (13, [.ref xc, .int xn])), wq ed cO 10 (va_up (fun _ => none) (nI 0).toNatClampNeg (some x))] _ := hP.sub [1, 0, 2] rfl
  have hDe : va_D A [(h, .inr (6, [.int mc, .ref ed, .int (nI 1)])), (x, .inr (13, [.ref xc, .int xn])), wq ed cO 10 (va_up (fun _ => none) (nI 0).toNatClampNeg (some x))] := hD.sub [1, 0, 2] (by decide) rfl
  refine W.widen (k := 1) (n := 10) (by first | exact Nat.le_of_ble_eq_true rfl | omega | (dsimp only [headSpec]; omega) | (simp only [headSpec]; omega) | omega) (by first | exact Nat.le_of_ble_eq_true rfl | omega | (dsimp only [headSpec]; omega) | (simp only [headSpec]; omega) | omega) ?_
  exact W.vret hx hb hr (fun t ht hW => ⟨⟨(), rfl, trivial, _, _, va_up_self _ _ _, by rw [ht]; exact hPe, va_K.moved hW.alike hK, hDe⟩, hS.F ht⟩) hS.2.2 dJx4a65c_add_72be8_22
set_option maxHeartbeats 4000000 in
set_option maxRecDepth 100000 in
theorem c_aladdo (l : Launch) (dC : Nat → ClassId) (dI : Nat → Nat → Nat) (cI cO : ClassId) (z0 : Nat) (sz : Nat) (h : Nat) (mc : Int32) (x : Nat) (xc : Nat) (xn : Int32) : Met l yJx4a65c_add_9ea2d usJx4a65c_add_9ea2d ({ frames := 4, cells := 1, slots := 10, locals := 86 }) (va_Pc [.ref h, .ref x] (fun U => U.heap.size = sz ∧ va_P (dC, dI) vwCl [(h, .inr (6, [.int mc, .ref z0, .int (nI 0)])), (x, .inr (13, [.ref xc, .int xn]))] U.heap ∧ va_K (dC, dI) vwCl (ty0 cI cO) U ∧ va_D (fun _ => True) [(h, .inr (6, [.int mc, .ref z0, .int (nI 0)])), (x, .inr (13, [.ref xc, .int xn]))] ∧ uz z0 (va_A [(h, .inr (6, [.int mc, .ref z0, .int (nI 0)])), (x, .inr (13, [.ref xc, .int xn]))] sz) U)) (va_Qi (fun (r : Int32) (_ : Unit) => True) (fun _ t => ∃ (mc2 : Int32), ∃ (ed : Nat), ∃ (fq : Nat → Option Nat), (fq 0 = some x) ∧ va_P (dC, dI) vwCl [(h, .inr (6, [.int mc2, .ref ed, .int (nI 1)])), (x, .inr (13, [.ref xc, .int xn])), wq ed cO 10 fq] t.heap ∧ va_K (dC, dI) vwCl (ty0 cI cO) t ∧ va_D (va_A [(h, .inr (6, [.int mc, .ref z0, .int (nI 0)])), (x, .inr (13, [.ref xc, .int xn]))] sz) [(h, .inr (6, [.int mc2, .ref ed, .int (nI 1)])), (x, .inr (13, [.ref xc, .int xn])), wq ed cO 10 fq]) (va_A [(h, .inr (6, [.int mc, .ref z0, .int (nI 0)])), (x, .inr (13, [.ref xc, .int xn]))] sz)) 1 10 (va_A [(h, .inr (6, [.int mc, .ref z0, .int (nI 0)])), (x, .inr (13, [.ref xc, .int xn]))] sz) := by
  refine Met.ofW (cc := cJx4a65c_add_9ea2d) (maxL := 2) (ret := (some .boolean)) (by decide) rfl ?_
  intro p e s m args below meth c s₁ B hml hv
  obtain ⟨rfl, hsz, hP, hK, hD0, hZ⟩ := hv
  have hx := B.exec
  have hb := B.bytes
  have hr := B.returns
  have hts := atoms_spec (ws := usJx4a65c_add_9ea2d) B.pre
  have hown : s.vm.findClass RJx4a65c = some m.cls := findClass_of_methodNamed B.named
  have hlocks := B.notSynchronized
  subst hsz
  have hD := hD0.self (sz := s.heap.size)
  generalize hAe : va_A [(h, .inr (6, [.int mc, .ref z0, .int (nI 0)])), (x, .inr (13, [.ref xc, .int xn]))] s.heap.size = A at hD hZ ⊢
  have hA : ∀ q : Nat, s.heap.size ≤ q → A q := fun q h => by rw [← hAe]; exact Or.inr h
  have hS : va_S A s.heap s.heap [] := va_S.rf
  obtain ⟨hZs, ⟨fz, hZt⟩, hZo, hZr, hZi, hZc⟩ := id hZ
  have hl := lv_entry ([.ref h, .ref x]) (n := 2) (Nat.le_of_ble_eq_true rfl)
  rw [lg_entry_eq]
  generalize (lg_sl ([.ref h, .ref x]) ++ List.replicate (2 - (lg_sl ([.ref h, .ref x])).length) Slot.unset).toArray = ls at hl ⊢
  have hl : lv_has ls 2 [(0, .ref h), (1, .ref x)] := hl
  refine lv_aload_n hx hb dJx4a65c_add_9ea2d_0 rfl (lv_at hl 0 rfl) ?_
  refine lv_dup hx hb dJx4a65c_add_9ea2d_1 rfl ?_
  refine va_get (D := (dC, dI)) (ci := 6) (v := .int mc) (C := RJx4a65c) (T := TJx4a65c) (N := 3) hx hb hts inJx4a65c_add_9ea2d_RJx4a65c hown hK hP 0 rfl rfl 0 (by decide) (hts (.fieldLink RJx4a65c 63 "java/util/ArrayList" "modCount" "I") (by decide +kernel)) (u_same (hts (.sameField "java/util/ArrayList" "java/util/AbstractList" "modCount" "I") (by decide +kernel))) rfl dJx4a65c_add_9ea2d_2 ?_
  refine lv_iconst (v := nI 1) hx hb dJx4a65c_add_9ea2d_5 (by decide) ?_
  refine lv_iadd hx hb dJx4a65c_add_9ea2d_6 ?_
  refine lv_topi (fun y_1 ey_1 => ?_)
  refine va_put (D := (dC, dI)) (ci := 6) (v := .int y_1) (ty := .int) (C := RJx4a65c) (T := TJx4a65c) (N := 3) hx hb hts inJx4a65c_add_9ea2d_RJx4a65c tyJx4a65c tyJx4a65c_ok nmJx4a65c hown hK hP hD hS 0 rfl rfl 0 (by decide) (hts (.fieldLink RJx4a65c 63 "java/util/ArrayList" "modCount" "I") (by decide +kernel)) (u_same (hts (.sameField "java/util/ArrayList" "java/util/AbstractList" "modCount" "I") (by decide +kernel))) rfl (by decide +kernel) rfl rfl (Nat.le_of_ble_eq_true rfl) dJx4a65c_add_9ea2d_7 (fun H locs hP hD hS => ?_)
  have hP : va_P (dC, dI) vwCl [(h, .inr (6, [.int y_1, .ref z0, .int (nI 0)])), (x, .inr (13, [.ref xc, .int xn]))] H := hP
  have hD : va_D A [(h, .inr (6, [.int y_1, .ref z0, .int (nI 0)])), (x, .inr (13, [.ref xc, .int xn]))] := hD
  refine lv_aload_n hx hb dJx4a65c_add_9ea2d_10 rfl (lv_at hl 0 rfl) ?_
  refine lv_aload_n hx hb dJx4a65c_add_9ea2d_11 rfl (lv_at hl 1 rfl) ?_
  refine lv_aload_n hx hb dJx4a65c_add_9ea2d_12 rfl (lv_at hl 0 rfl) ?_
  refine va_get (D := (dC, dI)) (ci := 6) (v := .ref z0) (C := RJx4a65c) (T := TJx4a65c) (N := 3) hx hb hts inJx4a65c_add_9ea2d_RJx4a65c hown hK hP 0 rfl rfl 1 (by decide) (hts (.fieldLink RJx4a65c 9 "java/util/ArrayList" "elementData" "[Ljava/lang/Object;") (by decide +kernel)) (fun _ h9 => h9) rfl dJx4a65c_add_9ea2d_13 ?_
  refine lv_aload_n hx hb dJx4a65c_add_9ea2d_16 rfl (lv_at hl 0 rfl) ?_
  refine va_get (D := (dC, dI)) (ci := 6) (v := .int (nI 0)) (C := RJx4a65c) (T := TJx4a65c) (N := 3) hx hb hts inJx4a65c_add_9ea2d_RJx4a65c hown hK hP 0 rfl rfl 2 (by decide) (hts (.fieldLink RJx4a65c 48 "java/util/ArrayList" "size" "I") (by decide +kernel)) (fun _ h9 => h9) rfl dJx4a65c_add_9ea2d_17 ?_
  have hPc : va_P (dC, dI) vwCl [(h, .inr (6, [.int y_1, .ref z0, .int (nI 0)])), (x, .inr (13, [.ref xc, .int xn]))] _ := hP.sub [0, 1] rfl
  have hDc : va_D _ [(h, .inr (6, [.int y_1, .ref z0, .int (nI 0)])), (x, .inr (13, [.ref xc, .int xn]))] := hD.sub [0, 1] (by decide) rfl
  have hFc := va_free (wc := [(h, .inr (6, [.int y_1, .ref z0, .int (nI 0)])), (x, .inr (13, [.ref xc, .int xn]))]) hD hS hA [0, 1] rfl
  refine va_callv (va_runV (As := [.ref x, .ref z0, .int (nI 0)]) (rest := []) ⟨hx, hb, hml, hown, hts⟩ (c_aladd3o l dC dI cI cO z0 H.size h y_1 x xc xn) (cwV 3 hts ugJx4a65c_add_9ea2d_Jx4a65c_add_72be8 rfl rfl rfl (by decide +kernel) ⟨(by first | exact Nat.le_of_ble_eq_true rfl | omega | (dsimp only [headSpec]; omega) | (simp only [headSpec]; omega) | omega), (by first | exact Nat.le_of_ble_eq_true rfl | omega | (dsimp only [headSpec]; omega) | (simp only [headSpec]; omega) | omega)⟩) ⟨fun a U g mk q => by obtain ⟨q0, q1, qP, qK, qD, qZ⟩ := q; exact ⟨q0, q1, qP, va_K.moved (u := U) (U := U.calling g mk a) (Vm.Alike.refl U.vm) qK, qD, qZ.moved (Vm.Alike.refl U.vm) rfl⟩, va_recv hK hPc (ci := 6) (q0 := 0) rfl rfl, fun U hU hW => ⟨rfl, by rw [hU], by rw [hU]; exact hPc, va_K.moved hW.alike hK, hDc.weaken (fun _ _ _ _ => trivial), uz_call hZ hS hFc hU hW.alike⟩⟩ rfl rfl hl.1 rfl (lv_room (Nat.le_of_ble_eq_true rfl)) dJx4a65c_add_9ea2d_20 ⟨(by first | exact Nat.le_of_ble_eq_true rfl | omega | (dsimp only [headSpec]; omega) | (simp only [headSpec]; omega) | omega), (by first | exact Nat.le_of_ble_eq_true rfl | omega | (dsimp only [headSpec]; omega) | (simp only [headSpec]; omega) | omega)⟩) hS (fun q _ h => hFc q h) hFc (fun u t H locs ht hvm hw hB hz1 hk1 hS => ?_)
  obtain ⟨ed, fq, hfq, hP1, hK1, hD1⟩ := hB
  rw [ht] at hP1
  obtain ⟨hP, hD⟩ := va_join (wr := []) (w1 := [(h, .inr (6, [.int y_1, .ref ed, .int (nI 1)])), (x, .inr (13, [.ref xc, .int xn])), wq ed cO 10 fq]) hP hD [0, 1] [] rfl rfl (by decide) (by decide) hk1 hFc hP1 hD1
  have hP : va_P (dC, dI) vwCl [(h, .inr (6, [.int y_1, .ref ed, .int (nI 1)])), (x, .inr (13, [.ref xc, .int xn])), wq ed cO 10 fq] H := hP
  have hD : va_D A [(h, .inr (6, [.int y_1, .ref ed, .int (nI 1)])), (x, .inr (13, [.ref xc, .int xn])), wq ed cO 10 fq] := hD
  refine W.widen (k := 1) (n := 10) (by first | exact Nat.le_of_ble_eq_true rfl | omega | (dsimp only [headSpec]; omega) | (simp only [headSpec]; omega) | omega) (by first | exact Nat.le_of_ble_eq_true rfl | omega | (dsimp only [headSpec]; omega) | (simp only [headSpec]; omega) | omega) ?_
  refine lv_iconst (v := nI 1) hx hb dJx4a65c_add_9ea2d_23 (by decide) ?_
  have hPe : va_P (dC, dI) vwCl [(h, .inr (6, [.int y_1, .ref ed, .int (nI 1)])), (x, .inr (13, [.ref xc, .int xn])), wq ed cO 10 fq] _ := hP.sub [0, 1, 2] rfl
  have hDe : va_D A [(h, .inr (6, [.int y_1, .ref ed, .int (nI 1)])), (x, .inr (13, [.ref xc, .int xn])), wq ed cO 10 fq] := hD.sub [0, 1, 2] (by decide) rfl
  refine W.widen (k := 1) (n := 10) (by first | exact Nat.le_of_ble_eq_true rfl | omega | (dsimp only [headSpec]; omega) | (simp only [headSpec]; omega) | omega) (by first | exact Nat.le_of_ble_eq_true rfl | omega | (dsimp only [headSpec]; omega) | (simp only [headSpec]; omega) | omega) ?_
  exact W.zret (v := nI 1) hx hb hr rfl (fun t ht hW => ⟨⟨_, (), rfl, trivial, _, _, _, hfq, by rw [ht]; exact hPe, va_K.moved hW.alike hK, hDe⟩, hS.F ht⟩) hS.2.2 dJx4a65c_add_9ea2d_24
set_option maxHeartbeats 4000000 in
set_option maxRecDepth 100000 in
theorem c_aladd3i (l : Launch) (dC : Nat → ClassId) (dI : Nat → Nat → Nat) (cI cO : ClassId) (z0 : Nat) (sz : Nat) (h : Nat) (mc : Int32) (x : Nat) (xn : Nat) (xf : Nat → Int32) : Met l yJx4a65c_add_72be8 usJx4a65c_add_72be8 ({ frames := 3, cells := 1, slots := 10, locals := 63 }) (va_Pc [.ref h, .ref x, .ref z0, .int (nI 0)] (fun U => U.heap.size = sz ∧ va_P (dC, dI) vwCl [(h, .inr (6, [.int mc, .ref z0, .int (nI 0)])), wa x cI xn xf] U.heap ∧ va_K (dC, dI) vwCl (ty0 cI cO) U ∧ va_D (fun _ => True) [(h, .inr (6, [.int mc, .ref z0, .int (nI 0)])), wa x cI xn xf] ∧ uz z0 (va_A [(h, .inr (6, [.int mc, .ref z0, .int (nI 0)])), wa x cI xn xf] sz) U)) (va_Qv (fun _ : Unit => True) (fun _ t => ∃ (ed : Nat), ∃ (fq : Nat → Option Nat), (fq 0 = some x) ∧ va_P (dC, dI) vwCl [(h, .inr (6, [.int mc, .ref ed, .int (nI 1)])), wa x cI xn xf, wq ed cO 10 fq] t.heap ∧ va_K (dC, dI) vwCl (ty0 cI cO) t ∧ va_D (va_A [(h, .inr (6, [.int mc, .ref z0, .int (nI 0)])), wa x cI xn xf] sz) [(h, .inr (6, [.int mc, .ref ed, .int (nI 1)])), wa x cI xn xf, wq ed cO 10 fq]) (va_A [(h, .inr (6, [.int mc, .ref z0, .int (nI 0)])), wa x cI xn xf] sz)) 1 10 (va_A [(h, .inr (6, [.int mc, .ref z0, .int (nI 0)])), wa x cI xn xf] sz) := by
  refine Met.ofW (cc := cJx4a65c_add_72be8) (maxL := 4) (ret := none) (by decide) rfl ?_
  intro p e s m args below meth c s₁ B hml hv
  obtain ⟨rfl, hsz, hP, hK, hD0, hZ⟩ := hv
  have hx := B.exec
  have hb := B.bytes
  have hr := B.returns
  have hts := atoms_spec (ws := usJx4a65c_add_72be8) B.pre
  have hown : s.vm.findClass RJx4a65c = some m.cls := findClass_of_methodNamed B.named
  have hlocks := B.notSynchronized
  subst hsz
  have hD := hD0.self (sz := s.heap.size)
  generalize hAe : va_A [(h, .inr (6, [.int mc, .ref z0, .int (nI 0)])), wa x cI xn xf] s.heap.size = A at hD hZ ⊢
  have hA : ∀ q : Nat, s.heap.size ≤ q → A q := fun q h => by rw [← hAe]; exact Or.inr h
  have hS : va_S A s.heap s.heap [] := va_S.rf
  obtain ⟨hZs, ⟨fz, hZt⟩, hZo, hZr, hZi, hZc⟩ := id hZ
  have hl := lv_entry ([.ref h, .ref x, .ref z0, .int (nI 0)]) (n := 4) (Nat.le_of_ble_eq_true rfl)
  rw [lg_entry_eq]
  generalize (lg_sl ([.ref h, .ref x, .ref z0, .int (nI 0)]) ++ List.replicate (4 - (lg_sl ([.ref h, .ref x, .ref z0, .int (nI 0)])).length) Slot.unset).toArray = ls at hl ⊢
  have hl : lv_has ls 4 [(0, .ref h), (1, .ref x), (2, .ref z0), (3, .int (nI 0))] := hl
  refine lv_iload_n hx hb dJx4a65c_add_72be8_0 rfl (lv_at hl 3 rfl) ?_
  refine lv_aload_n hx hb dJx4a65c_add_72be8_1 rfl (lv_at hl 2 rfl) ?_
  refine va_tlen hx hb hZt hS rfl dJx4a65c_add_72be8_2 ?_
  refine lv_icmp_ne (tgt := 11) hx hb dJx4a65c_add_72be8_3 (by decide) (fun hc1 => absurd rfl hc1) (fun hc1 => ?_)
  refine lv_aload_n hx hb dJx4a65c_add_72be8_6 rfl (lv_at hl 0 rfl) ?_
  have hPc : va_P (dC, dI) vwCl [(h, .inr (6, [.int mc, .ref z0, .int (nI 0)]))] _ := hP.sub [0] rfl
  have hDc : va_D _ [(h, .inr (6, [.int mc, .ref z0, .int (nI 0)]))] := hD.sub [0] (by decide) rfl
  have hFc := va_free (wc := [(h, .inr (6, [.int mc, .ref z0, .int (nI 0)]))]) hD hS hA [0] rfl
  refine va_callr (va_runV (As := []) (rest := []) ⟨hx, hb, hml, hown, hts⟩ (c_algrow l dC dI cI cO z0 s.heap.size h mc) (cwV 0 hts ugJx4a65c_add_72be8_Jx4a65c_grow_d5877 rfl rfl rfl (by decide +kernel) ⟨(by first | exact Nat.le_of_ble_eq_true rfl | omega | (dsimp only [headSpec]; omega) | (simp only [headSpec]; omega) | omega), (by first | exact Nat.le_of_ble_eq_true rfl | omega | (dsimp only [headSpec]; omega) | (simp only [headSpec]; omega) | omega)⟩) ⟨fun a U g mk q => by obtain ⟨q0, q1, qP, qK, qD, qZ⟩ := q; exact ⟨q0, q1, qP, va_K.moved (u := U) (U := U.calling g mk a) (Vm.Alike.refl U.vm) qK, qD, qZ.moved (Vm.Alike.refl U.vm) rfl⟩, va_recv hK hPc (ci := 6) (q0 := 0) rfl rfl, fun U hU hW => ⟨rfl, by rw [hU], by rw [hU]; exact hPc, va_K.moved hW.alike hK, hDc.weaken (fun _ _ _ _ => trivial), uz_call hZ hS hFc hU hW.alike⟩⟩ rfl rfl hl.1 rfl (lv_room (Nat.le_of_ble_eq_true rfl)) dJx4a65c_add_72be8_7 ⟨(by first | exact Nat.le_of_ble_eq_true rfl | omega | (dsimp only [headSpec]; omega) | (simp only [headSpec]; omega) | omega), (by first | exact Nat.le_of_ble_eq_true rfl | omega | (dsimp only [headSpec]; omega) | (simp only [headSpec]; omega) | omega)⟩) hS (fun q _ h => hFc q h) hFc (fun u ed t H locs ht hvm hw hB hz1 hk1 hS => ?_)
  obtain ⟨hP1, hK1, hD1⟩ := hB
  rw [ht] at hP1
  obtain ⟨hP, hD⟩ := va_join (wr := [wa x cI xn xf]) (w1 := [(h, .inr (6, [.int mc, .ref ed, .int (nI 0)])), wq ed cO 10 (fun _ => none)]) hP hD [0] [1] rfl rfl (by decide) (by decide) hk1 hFc hP1 hD1
  have hP : va_P (dC, dI) vwCl [wa x cI xn xf, (h, .inr (6, [.int mc, .ref ed, .int (nI 0)])), wq ed cO 10 (fun _ => none)] H := hP
  have hD : va_D A [wa x cI xn xf, (h, .inr (6, [.int mc, .ref ed, .int (nI 0)])), wq ed cO 10 (fun _ => none)] := hD
  refine W.widen (k := 1) (n := 10) (by first | exact Nat.le_of_ble_eq_true rfl | omega | (dsimp only [headSpec]; omega) | (simp only [headSpec]; omega) | omega) (by first | exact Nat.le_of_ble_eq_true rfl | omega | (dsimp only [headSpec]; omega) | (simp only [headSpec]; omega) | omega) ?_
  refine lv_astore_n (lv' := [(2, .ref ed), (0, .ref h), (1, .ref x), (3, .int (nI 0))]) hx hb dJx4a65c_add_72be8_10 rfl hl (by decide) rfl (fun ls hl => ?_)
  refine lv_aload_n hx hb dJx4a65c_add_72be8_11 rfl (lv_at hl 0 rfl) ?_
  refine lv_iload_n hx hb dJx4a65c_add_72be8_12 rfl (lv_at hl 3 rfl) ?_
  refine lv_aload_n hx hb dJx4a65c_add_72be8_13 rfl (lv_at hl 2 rfl) ?_
  refine va_astqM (D := (dC, dI)) hx hb hK hP hD hS 2 1 rfl rfl (uA_int (t0 := 0) (q0 := 0) hK hP rfl rfl hZi) (vp_in_nI (by omega) (by omega)) dJx4a65c_add_72be8_14 (fun H locs hP hD hS => ?_)
  have hP : va_P (dC, dI) vwCl [wa x cI xn xf, (h, .inr (6, [.int mc, .ref ed, .int (nI 0)])), wq ed cO 10 (va_up (fun _ => none) (nI 0).toNatClampNeg (some x))] H := hP
  have hD : va_D A [wa x cI xn xf, (h, .inr (6, [.int mc, .ref ed, .int (nI 0)])), wq ed cO 10 (va_up (fun _ => none) (nI 0).toNatClampNeg (some x))] := hD
  refine lv_aload_n hx hb dJx4a65c_add_72be8_15 rfl (lv_at hl 1 rfl) ?_
  refine lv_iload_n hx hb dJx4a65c_add_72be8_16 rfl (lv_at hl 3 rfl) ?_
  refine lv_iconst (v := nI 1) hx hb dJx4a65c_add_72be8_17 (by decide) ?_
  refine lv_iadd hx hb dJx4a65c_add_72be8_18 ?_
  refine lv_topi (fun y_1 ey_1 => ?_)
  have h_2 : y_1 = nI 1 := ey_1.trans (nI_add 0 1)
  subst h_2
  refine va_put (D := (dC, dI)) (ci := 6) (v := .int (nI 1)) (ty := .int) (C := RJx4a65c) (T := TJx4a65c) (N := 3) hx hb hts inJx4a65c_add_72be8_RJx4a65c tyJx4a65c tyJx4a65c_ok nmJx4a65c hown hK hP hD hS 1 rfl rfl 2 (by decide) (hts (.fieldLink RJx4a65c 48 "java/util/ArrayList" "size" "I") (by decide +kernel)) (fun _ h9 => h9) rfl (by decide +kernel) rfl rfl (Nat.le_of_ble_eq_true rfl) dJx4a65c_add_72be8_19 (fun H locs hP hD hS => ?_)
  have hP : va_P (dC, dI) vwCl [wa x cI xn xf, (h, .inr (6, [.int mc, .ref ed, .int (nI 1)])), wq ed cO 10 (va_up (fun _ => none) (nI 0).toNatClampNeg (some x))] H := hP
  have hD : va_D A [wa x cI xn xf, (h, .inr (6, [.int mc, .ref ed, .int (nI 1)])), wq ed cO 10 (va_up (fun _ => none) (nI 0).toNatClampNeg (some x))] := hD
  have hPe : va_P (dC, dI) vwCl [(h, .inr (6, [.int mc, .ref ed, .int (nI 1)])), wa x cI xn xf, wq ed cO 10 (va_up (fun _ => none) (nI 0).toNatClampNeg (some x))] _ := hP.sub [1, 0, 2] rfl
  have hDe : va_D A [(h, .inr (6, [.int mc, .ref ed, .int (nI 1)])), wa x cI xn xf, wq ed cO 10 (va_up (fun _ => none) (nI 0).toNatClampNeg (some x))] := hD.sub [1, 0, 2] (by decide) rfl
  refine W.widen (k := 1) (n := 10) (by first | exact Nat.le_of_ble_eq_true rfl | omega | (dsimp only [headSpec]; omega) | (simp only [headSpec]; omega) | omega) (by first | exact Nat.le_of_ble_eq_true rfl | omega | (dsimp only [headSpec]; omega) | (simp only [headSpec]; omega) | omega) ?_
  exact W.vret hx hb hr (fun t ht hW => ⟨⟨(), rfl, trivial, _, _, va_up_self _ _ _, by rw [ht]; exact hPe, va_K.moved hW.alike hK, hDe⟩, hS.F ht⟩) hS.2.2 dJx4a65c_add_72be8_22
set_option maxHeartbeats 4000000 in
set_option maxRecDepth 100000 in
theorem c_aladdi (l : Launch) (dC : Nat → ClassId) (dI : Nat → Nat → Nat) (cI cO : ClassId) (z0 : Nat) (sz : Nat) (h : Nat) (mc : Int32) (x : Nat) (xn : Nat) (xf : Nat → Int32) : Met l yJx4a65c_add_9ea2d usJx4a65c_add_9ea2d ({ frames := 4, cells := 1, slots := 10, locals := 86 }) (va_Pc [.ref h, .ref x] (fun U => U.heap.size = sz ∧ va_P (dC, dI) vwCl [(h, .inr (6, [.int mc, .ref z0, .int (nI 0)])), wa x cI xn xf] U.heap ∧ va_K (dC, dI) vwCl (ty0 cI cO) U ∧ va_D (fun _ => True) [(h, .inr (6, [.int mc, .ref z0, .int (nI 0)])), wa x cI xn xf] ∧ uz z0 (va_A [(h, .inr (6, [.int mc, .ref z0, .int (nI 0)])), wa x cI xn xf] sz) U)) (va_Qi (fun (r : Int32) (_ : Unit) => True) (fun _ t => ∃ (mc2 : Int32), ∃ (ed : Nat), ∃ (fq : Nat → Option Nat), (fq 0 = some x) ∧ va_P (dC, dI) vwCl [(h, .inr (6, [.int mc2, .ref ed, .int (nI 1)])), wa x cI xn xf, wq ed cO 10 fq] t.heap ∧ va_K (dC, dI) vwCl (ty0 cI cO) t ∧ va_D (va_A [(h, .inr (6, [.int mc, .ref z0, .int (nI 0)])), wa x cI xn xf] sz) [(h, .inr (6, [.int mc2, .ref ed, .int (nI 1)])), wa x cI xn xf, wq ed cO 10 fq]) (va_A [(h, .inr (6, [.int mc, .ref z0, .int (nI 0)])), wa x cI xn xf] sz)) 1 10 (va_A [(h, .inr (6, [.int mc, .ref z0, .int (nI 0)])), wa x cI xn xf] sz) := by
  refine Met.ofW (cc := cJx4a65c_add_9ea2d) (maxL := 2) (ret := (some .boolean)) (by decide) rfl ?_
  intro p e s m args below meth c s₁ B hml hv
  obtain ⟨rfl, hsz, hP, hK, hD0, hZ⟩ := hv
  have hx := B.exec
  have hb := B.bytes
  have hr := B.returns
  have hts := atoms_spec (ws := usJx4a65c_add_9ea2d) B.pre
  have hown : s.vm.findClass RJx4a65c = some m.cls := findClass_of_methodNamed B.named
  have hlocks := B.notSynchronized
  subst hsz
  have hD := hD0.self (sz := s.heap.size)
  generalize hAe : va_A [(h, .inr (6, [.int mc, .ref z0, .int (nI 0)])), wa x cI xn xf] s.heap.size = A at hD hZ ⊢
  have hA : ∀ q : Nat, s.heap.size ≤ q → A q := fun q h => by rw [← hAe]; exact Or.inr h
  have hS : va_S A s.heap s.heap [] := va_S.rf
  obtain ⟨hZs, ⟨fz, hZt⟩, hZo, hZr, hZi, hZc⟩ := id hZ
  have hl := lv_entry ([.ref h, .ref x]) (n := 2) (Nat.le_of_ble_eq_true rfl)
  rw [lg_entry_eq]
  generalize (lg_sl ([.ref h, .ref x]) ++ List.replicate (2 - (lg_sl ([.ref h, .ref x])).length) Slot.unset).toArray = ls at hl ⊢
  have hl : lv_has ls 2 [(0, .ref h), (1, .ref x)] := hl
  refine lv_aload_n hx hb dJx4a65c_add_9ea2d_0 rfl (lv_at hl 0 rfl) ?_
  refine lv_dup hx hb dJx4a65c_add_9ea2d_1 rfl ?_
  refine va_get (D := (dC, dI)) (ci := 6) (v := .int mc) (C := RJx4a65c) (T := TJx4a65c) (N := 3) hx hb hts inJx4a65c_add_9ea2d_RJx4a65c hown hK hP 0 rfl rfl 0 (by decide) (hts (.fieldLink RJx4a65c 63 "java/util/ArrayList" "modCount" "I") (by decide +kernel)) (u_same (hts (.sameField "java/util/ArrayList" "java/util/AbstractList" "modCount" "I") (by decide +kernel))) rfl dJx4a65c_add_9ea2d_2 ?_
  refine lv_iconst (v := nI 1) hx hb dJx4a65c_add_9ea2d_5 (by decide) ?_
  refine lv_iadd hx hb dJx4a65c_add_9ea2d_6 ?_
  refine lv_topi (fun y_1 ey_1 => ?_)
  refine va_put (D := (dC, dI)) (ci := 6) (v := .int y_1) (ty := .int) (C := RJx4a65c) (T := TJx4a65c) (N := 3) hx hb hts inJx4a65c_add_9ea2d_RJx4a65c tyJx4a65c tyJx4a65c_ok nmJx4a65c hown hK hP hD hS 0 rfl rfl 0 (by decide) (hts (.fieldLink RJx4a65c 63 "java/util/ArrayList" "modCount" "I") (by decide +kernel)) (u_same (hts (.sameField "java/util/ArrayList" "java/util/AbstractList" "modCount" "I") (by decide +kernel))) rfl (by decide +kernel) rfl rfl (Nat.le_of_ble_eq_true rfl) dJx4a65c_add_9ea2d_7 (fun H locs hP hD hS => ?_)
  have hP : va_P (dC, dI) vwCl [(h, .inr (6, [.int y_1, .ref z0, .int (nI 0)])), wa x cI xn xf] H := hP
  have hD : va_D A [(h, .inr (6, [.int y_1, .ref z0, .int (nI 0)])), wa x cI xn xf] := hD
  refine lv_aload_n hx hb dJx4a65c_add_9ea2d_10 rfl (lv_at hl 0 rfl) ?_
  refine lv_aload_n hx hb dJx4a65c_add_9ea2d_11 rfl (lv_at hl 1 rfl) ?_
  refine lv_aload_n hx hb dJx4a65c_add_9ea2d_12 rfl (lv_at hl 0 rfl) ?_
  refine va_get (D := (dC, dI)) (ci := 6) (v := .ref z0) (C := RJx4a65c) (T := TJx4a65c) (N := 3) hx hb hts inJx4a65c_add_9ea2d_RJx4a65c hown hK hP 0 rfl rfl 1 (by decide) (hts (.fieldLink RJx4a65c 9 "java/util/ArrayList" "elementData" "[Ljava/lang/Object;") (by decide +kernel)) (fun _ h9 => h9) rfl dJx4a65c_add_9ea2d_13 ?_
  refine lv_aload_n hx hb dJx4a65c_add_9ea2d_16 rfl (lv_at hl 0 rfl) ?_
  refine va_get (D := (dC, dI)) (ci := 6) (v := .int (nI 0)) (C := RJx4a65c) (T := TJx4a65c) (N := 3) hx hb hts inJx4a65c_add_9ea2d_RJx4a65c hown hK hP 0 rfl rfl 2 (by decide) (hts (.fieldLink RJx4a65c 48 "java/util/ArrayList" "size" "I") (by decide +kernel)) (fun _ h9 => h9) rfl dJx4a65c_add_9ea2d_17 ?_
  have hPc : va_P (dC, dI) vwCl [(h, .inr (6, [.int y_1, .ref z0, .int (nI 0)])), wa x cI xn xf] _ := hP.sub [0, 1] rfl
  have hDc : va_D _ [(h, .inr (6, [.int y_1, .ref z0, .int (nI 0)])), wa x cI xn xf] := hD.sub [0, 1] (by decide) rfl
  have hFc := va_free (wc := [(h, .inr (6, [.int y_1, .ref z0, .int (nI 0)])), wa x cI xn xf]) hD hS hA [0, 1] rfl
  refine va_callv (va_runV (As := [.ref x, .ref z0, .int (nI 0)]) (rest := []) ⟨hx, hb, hml, hown, hts⟩ (c_aladd3i l dC dI cI cO z0 H.size h y_1 x xn xf) (cwV 3 hts ugJx4a65c_add_9ea2d_Jx4a65c_add_72be8 rfl rfl rfl (by decide +kernel) ⟨(by first | exact Nat.le_of_ble_eq_true rfl | omega | (dsimp only [headSpec]; omega) | (simp only [headSpec]; omega) | omega), (by first | exact Nat.le_of_ble_eq_true rfl | omega | (dsimp only [headSpec]; omega) | (simp only [headSpec]; omega) | omega)⟩) ⟨fun a U g mk q => by obtain ⟨q0, q1, qP, qK, qD, qZ⟩ := q; exact ⟨q0, q1, qP, va_K.moved (u := U) (U := U.calling g mk a) (Vm.Alike.refl U.vm) qK, qD, qZ.moved (Vm.Alike.refl U.vm) rfl⟩, va_recv hK hPc (ci := 6) (q0 := 0) rfl rfl, fun U hU hW => ⟨rfl, by rw [hU], by rw [hU]; exact hPc, va_K.moved hW.alike hK, hDc.weaken (fun _ _ _ _ => trivial), uz_call hZ hS hFc hU hW.alike⟩⟩ rfl rfl hl.1 rfl (lv_room (Nat.le_of_ble_eq_true rfl)) dJx4a65c_add_9ea2d_20 ⟨(by first | exact Nat.le_of_ble_eq_true rfl | omega | (dsimp only [headSpec]; omega) | (simp only [headSpec]; omega) | omega), (by first | exact Nat.le_of_ble_eq_true rfl | omega | (dsimp only [headSpec]; omega) | (simp only [headSpec]; omega) | omega)⟩) hS (fun q _ h => hFc q h) hFc (fun u t H locs ht hvm hw hB hz1 hk1 hS => ?_)
  obtain ⟨ed, fq, hfq, hP1, hK1, hD1⟩ := hB
  rw [ht] at hP1
  obtain ⟨hP, hD⟩ := va_join (wr := []) (w1 := [(h, .inr (6, [.int y_1, .ref ed, .int (nI 1)])), wa x cI xn xf, wq ed cO 10 fq]) hP hD [0, 1] [] rfl rfl (by decide) (by decide) hk1 hFc hP1 hD1
  have hP : va_P (dC, dI) vwCl [(h, .inr (6, [.int y_1, .ref ed, .int (nI 1)])), wa x cI xn xf, wq ed cO 10 fq] H := hP
  have hD : va_D A [(h, .inr (6, [.int y_1, .ref ed, .int (nI 1)])), wa x cI xn xf, wq ed cO 10 fq] := hD
  refine W.widen (k := 1) (n := 10) (by first | exact Nat.le_of_ble_eq_true rfl | omega | (dsimp only [headSpec]; omega) | (simp only [headSpec]; omega) | omega) (by first | exact Nat.le_of_ble_eq_true rfl | omega | (dsimp only [headSpec]; omega) | (simp only [headSpec]; omega) | omega) ?_
  refine lv_iconst (v := nI 1) hx hb dJx4a65c_add_9ea2d_23 (by decide) ?_
  have hPe : va_P (dC, dI) vwCl [(h, .inr (6, [.int y_1, .ref ed, .int (nI 1)])), wa x cI xn xf, wq ed cO 10 fq] _ := hP.sub [0, 1, 2] rfl
  have hDe : va_D A [(h, .inr (6, [.int y_1, .ref ed, .int (nI 1)])), wa x cI xn xf, wq ed cO 10 fq] := hD.sub [0, 1, 2] (by decide) rfl
  refine W.widen (k := 1) (n := 10) (by first | exact Nat.le_of_ble_eq_true rfl | omega | (dsimp only [headSpec]; omega) | (simp only [headSpec]; omega) | omega) (by first | exact Nat.le_of_ble_eq_true rfl | omega | (dsimp only [headSpec]; omega) | (simp only [headSpec]; omega) | omega) ?_
  exact W.zret (v := nI 1) hx hb hr rfl (fun t ht hW => ⟨⟨_, (), rfl, trivial, _, _, _, hfq, by rw [ht]; exact hPe, va_K.moved hW.alike hK, hDe⟩, hS.F ht⟩) hS.2.2 dJx4a65c_add_9ea2d_24
