def wsX8_missNow_r3 : List Cond := [Cond.code yX7_next cX7_next 7 (some .int), Cond.methodLink RX7 123 yX7_atHand, Cond.instanceMethod yX7_atHand, Cond.selects RX7 yX7_atHand yX7_atHand, Cond.code yX7_atHand cX7_atHand 7 (some .int), Cond.fieldLink RX7 18 "LockRoomsModel$Room" "things" "Ljava/util/ArrayList;", Cond.methodLink RX7 132 yX7_isEnd, Cond.instanceMethod yX7_isEnd, Cond.selects RX7 yX7_isEnd yX7_isEnd, Cond.code yX7_isEnd cX7_isEnd 2 (some .boolean), Cond.fieldLink RX7 24 "LockRoomsModel$Room" "exit" "I", Cond.methodLink RX8 28 yJx4a65c_size_8abf5, Cond.methodLink RX8 84 yJx4a65c_get_915e3]
def wsX8_missNow : List Cond := .code yX8_missNow cX8_missNow 5 (some .int) :: ((wsX8_missNow_r1 ++ (wsX8_missNow_r2 ++ wsX8_missNow_r3)) ++ wsX80 ++ wsX70 ++ wsJx4a65c0)
def wsX8_endsNow_r1 : List Cond := [Cond.fieldLink RX8 10 "LockRoomsModel" "room" "LLockRoomsModel$Room;", Cond.methodLink RX8 161 yX7_copy, Cond.instanceMethod yX7_copy, Cond.selects RX7 yX7_copy yX7_copy, Cond.initialized RX7, Cond.code yX7_copy cX7_copy 4 (some (.object "LockRoomsModel$Room")), Cond.classLink RX7 13 RX7, Cond.instantiable RX7 14, Cond.fieldLink RX7 12 "LockRoomsModel$Room" "locks" "Ljava/util/ArrayList;", Cond.classLink RX7 46 "[I", Cond.methodLink RX7 48 ⟨"[I", "clone", "()Ljava/lang/Object;"⟩, Cond.sameMethod "[I" "java/lang/Object" "clone" "()Ljava/lang/Object;", Cond.native ⟨"java/lang/Object", "clone", "()Ljava/lang/Object;"⟩, Cond.instanceMethod ⟨"java/lang/Object", "clone", "()Ljava/lang/Object;"⟩, Cond.selects "[I" ⟨"[I", "clone", "()Ljava/lang/Object;"⟩ ⟨"java/lang/Object", "clone", "()Ljava/lang/Object;"⟩, Cond.fieldLink RX7 18 "LockRoomsModel$Room" "things" "Ljava/util/ArrayList;", Cond.fieldLink RX7 21 "LockRoomsModel$Room" "players" "Ljava/util/ArrayList;", Cond.fieldLink RX7 24 "LockRoomsModel$Room" "exit" "I", Cond.fieldLink RX7 55 "LockRoomsModel$Room" "isRunning" "Z", Cond.fieldLink RX7 59 "LockRoomsModel$Room" "time" "I", Cond.methodLink RX7 31 yX7_init, Cond.instanceMethod yX7_init, Cond.code yX7_init cX7_init 1 none, Cond.methodLink RX7 3 objectInit]
def wsX8_endsNow_r2 : List Cond := [Cond.instanceMethod objectInit, Cond.code objectInit ⟨#[0xb1]⟩ 1 none, Cond.classLink RX7 9 RJx4a65c, Cond.instantiable RJx4a65c 3, Cond.initialized RJx4a65c, Cond.fieldLink RX7 28 "LockRoomsModel$Room" "record" "I", Cond.methodLink RX7 11 yJx4a65c_init_da8c8, Cond.instanceMethod yJx4a65c_init_da8c8, Cond.code yJx4a65c_init_da8c8 cJx4a65c_init_da8c8 1 none, Cond.fieldLink RJx4a65c 39 "java/util/ArrayList" "DEFAULTCAPACITY_EMPTY_ELEMENTDATA" "[Ljava/lang/Object;", Cond.fieldLink RJx4a65c 9 "java/util/ArrayList" "elementData" "[Ljava/lang/Object;", Cond.methodLink RJx4a65c 1 yJxc12de_init_da8c8, Cond.instanceMethod yJxc12de_init_da8c8, Cond.initialized RJxc12de, Cond.code yJxc12de_init_da8c8 cJxc12de_init_da8c8 1 none, Cond.fieldLink RJxc12de 7 "java/util/AbstractList" "modCount" "I", Cond.methodLink RJxc12de 1 yJxa1e45_init_da8c8, Cond.instanceMethod yJxa1e45_init_da8c8, Cond.initialized RJxa1e45, Cond.code yJxa1e45_init_da8c8 cJxa1e45_init_da8c8 1 none, Cond.methodLink RJxa1e45 1 objectInit, Cond.methodLink RX7 32 yJx4a65c_iterator_32c93, Cond.instanceMethod yJx4a65c_iterator_32c93, Cond.selects RJx4a65c yJx4a65c_iterator_32c93 yJx4a65c_iterator_32c93]
def wsX8_endsNow_r3 : List Cond := [Cond.code yJx4a65c_iterator_32c93 cJx4a65c_iterator_32c93 1 (some (.object "java/util/Iterator")), Cond.classLink RJx4a65c 267 RJx35411, Cond.instantiable RJx35411 4, Cond.initialized RJx35411, Cond.methodLink RJx4a65c 269 yJx35411_init_45d68, Cond.instanceMethod yJx35411_init_45d68, Cond.code yJx35411_init_45d68 cJx35411_init_45d68 2 none, Cond.fieldLink RJx35411 1 "java/util/ArrayList$Itr" "this$0" "Ljava/util/ArrayList;", Cond.methodLink RJx35411 7 objectInit, Cond.fieldLink RJx35411 13 "java/util/ArrayList$Itr" "lastRet" "I", Cond.fieldLink RJx35411 17 "java/util/ArrayList" "modCount" "I", Cond.sameField "java/util/ArrayList" "java/util/AbstractList" "modCount" "I", Cond.fieldLink RJx35411 22 "java/util/ArrayList$Itr" "expectedModCount" "I", Cond.methodLink RX7 36 ⟨"java/util/Iterator", "hasNext", "()Z"⟩, Cond.selects RJx35411 ⟨"java/util/Iterator", "hasNext", "()Z"⟩ yJx35411_hasNext_aae02, Cond.instanceMethod yJx35411_hasNext_aae02, Cond.code yJx35411_hasNext_aae02 cJx35411_hasNext_aae02 1 (some .boolean), Cond.fieldLink RJx35411 25 "java/util/ArrayList$Itr" "cursor" "I", Cond.methodLink RX7 42 ⟨"java/util/Iterator", "next", "()Ljava/lang/Object;"⟩, Cond.selects RJx35411 ⟨"java/util/Iterator", "next", "()Ljava/lang/Object;"⟩ yJx35411_next_0502b, Cond.instanceMethod yJx35411_next_0502b, Cond.code yJx35411_next_0502b cJx35411_next_0502b 3 (some (.object "java/lang/Object")), Cond.fieldLink RJx35411 37 "java/util/ArrayList" "elementData" "[Ljava/lang/Object;", Cond.methodLink RJx35411 31 yJx35411_checkForComodification_da8c8]
def wsX8_endsNow_r4 : List Cond := [Cond.instanceMethod yJx35411_checkForComodification_da8c8, Cond.selects RJx35411 yJx35411_checkForComodification_da8c8 yJx35411_checkForComodification_da8c8, Cond.code yJx35411_checkForComodification_da8c8 cJx35411_checkForComodification_da8c8 1 none, Cond.methodLink RX7 51 yJx4a65c_add_9ea2d, Cond.instanceMethod yJx4a65c_add_9ea2d, Cond.selects RJx4a65c yJx4a65c_add_9ea2d yJx4a65c_add_9ea2d, Cond.code yJx4a65c_add_9ea2d cJx4a65c_add_9ea2d 2 (some .boolean), Cond.fieldLink RJx4a65c 63 "java/util/ArrayList" "modCount" "I", Cond.fieldLink RJx4a65c 48 "java/util/ArrayList" "size" "I", Cond.methodLink RJx4a65c 131 yJx4a65c_add_72be8, Cond.instanceMethod yJx4a65c_add_72be8, Cond.selects RJx4a65c yJx4a65c_add_72be8 yJx4a65c_add_72be8, Cond.code yJx4a65c_add_72be8 cJx4a65c_add_72be8 4 none, Cond.methodLink RJx4a65c 129 yJx4a65c_grow_d5877, Cond.instanceMethod yJx4a65c_grow_d5877, Cond.selects RJx4a65c yJx4a65c_grow_d5877 yJx4a65c_grow_d5877, Cond.code yJx4a65c_grow_d5877 cJx4a65c_grow_d5877 1 (some (.array (.object "java/lang/Object"))), Cond.methodLink RJx4a65c 69 yJx4a65c_grow_92f84, Cond.instanceMethod yJx4a65c_grow_92f84, Cond.selects RJx4a65c yJx4a65c_grow_92f84 yJx4a65c_grow_92f84, Cond.code yJx4a65c_grow_92f84 cJx4a65c_grow_92f84 4 (some (.array (.object "java/lang/Object"))), Cond.methodLink RJx4a65c 79 Lib.Math.max.name, Cond.static Lib.Math.max.name, Cond.initialized "java/lang/Math"]
def wsX8_endsNow_r5 : List Cond := [Cond.code Lib.Math.max.name Lib.Math.max.code 2 (some .int), Cond.classLink RJx4a65c 7 "java/lang/Object", Cond.methodLink RJx4a65c 73 yJ8_newLength_cabcc, Cond.static yJ8_newLength_cabcc, Cond.initialized RJ8, Cond.code yJ8_newLength_cabcc cJ8_newLength_cabcc 4 (some .int), Cond.methodLink RJ8 194 Lib.Math.max.name, Cond.constant RJ8 200 (2147483639), Cond.methodLink RJ8 201 yJ8_hugeLength_7cf53, Cond.static yJ8_hugeLength_7cf53, Cond.code yJ8_hugeLength_7cf53 cJ8_hugeLength_7cf53 3 (some .int), Cond.methodLink RJx4a65c 66 yJ7_copyOf_1904c, Cond.static yJ7_copyOf_1904c, Cond.initialized RJ7, Cond.code yJ7_copyOf_1904c cJ7_copyOf_1904c 2 (some (.array (.object "java/lang/Object"))), Cond.methodLink RJ7 86 ⟨"java/lang/Object", "getClass", "()Ljava/lang/Class;"⟩, Cond.selects "[Ljava/lang/Object;" ⟨"java/lang/Object", "getClass", "()Ljava/lang/Class;"⟩ ⟨"java/lang/Object", "getClass", "()Ljava/lang/Class;"⟩, Cond.instanceMethod ⟨"java/lang/Object", "getClass", "()Ljava/lang/Class;"⟩, Cond.native ⟨"java/lang/Object", "getClass", "()Ljava/lang/Class;"⟩, Cond.methodLink RJ7 300 yJ7_copyOf_6403c, Cond.static yJ7_copyOf_6403c, Cond.code yJ7_copyOf_6403c cJ7_copyOf_6403c 4 (some (.array (.object "java/lang/Object"))), Cond.classLink RJ7 110 "[Ljava/lang/Object;", Cond.classLink RJ7 2 "java/lang/Object"]
def wsX8_endsNow_r6 : List Cond := [Cond.methodLink RJ7 304 Lib.Math.min.name, Cond.static Lib.Math.min.name, Cond.code Lib.Math.min.name Lib.Math.min.code 2 (some .int), Cond.methodLink RJ7 150 arraycopyName, Cond.native arraycopyName, Cond.static arraycopyName, Cond.initialized "java/lang/System", Cond.methodLink RX8 81 yX7_pass, Cond.instanceMethod yX7_pass, Cond.selects RX7 yX7_pass yX7_pass, Cond.code yX7_pass cX7_pass 3 (some .int), Cond.fieldLink RX7 99 "LockRoomsModel$Room" "now" "I", Cond.methodLink RX7 62 yJx4a65c_size_8abf5, Cond.instanceMethod yJx4a65c_size_8abf5, Cond.selects RJx4a65c yJx4a65c_size_8abf5 yJx4a65c_size_8abf5, Cond.code yJx4a65c_size_8abf5 cJx4a65c_size_8abf5 1 (some .int), Cond.methodLink RX7 66 yJx4a65c_get_915e3, Cond.instanceMethod yJx4a65c_get_915e3, Cond.selects RJx4a65c yJx4a65c_get_915e3 yJx4a65c_get_915e3, Cond.code yJx4a65c_get_915e3 cJx4a65c_get_915e3 2 (some (.object "java/lang/Object")), Cond.methodLink RJx4a65c 118 yJ15_checkIndex_7cf53, Cond.static yJ15_checkIndex_7cf53, Cond.initialized RJ15, Cond.code yJ15_checkIndex_7cf53 cJ15_checkIndex_7cf53 2 (some .int)]
def wsX8_endsNow_r7 : List Cond := [Cond.methodLink RJ15 105 yJ3_checkIndex_8e157, Cond.static yJ3_checkIndex_8e157, Cond.initialized RJ3, Cond.code yJ3_checkIndex_8e157 cJ3_checkIndex_8e157 3 (some .int), Cond.methodLink RJx4a65c 123 yJx4a65c_elementData_915e3, Cond.instanceMethod yJx4a65c_elementData_915e3, Cond.selects RJx4a65c yJx4a65c_elementData_915e3 yJx4a65c_elementData_915e3, Cond.code yJx4a65c_elementData_915e3 cJx4a65c_elementData_915e3 2 (some (.object "java/lang/Object")), Cond.methodLink RX7 102 yX7_act, Cond.instanceMethod yX7_act, Cond.selects RX7 yX7_act yX7_act, Cond.code yX7_act cX7_act 4 (some .int), Cond.fieldLink RX7 120 "LockRoomsModel$Room" "idled" "I", Cond.methodLink RX7 74 yX7_isReady, Cond.instanceMethod yX7_isReady, Cond.selects RX7 yX7_isReady yX7_isReady, Cond.code yX7_isReady cX7_isReady 3 (some .boolean), Cond.methodLink RX7 70 yX7_inState, Cond.instanceMethod yX7_inState, Cond.selects RX7 yX7_inState yX7_inState, Cond.code yX7_inState cX7_inState 4 (some .int), Cond.methodLink RX7 113 yX7_open, Cond.instanceMethod yX7_open, Cond.selects RX7 yX7_open yX7_open]
def wsX8_endsNow_r8 : List Cond := [Cond.code yX7_open cX7_open 4 none, Cond.methodLink RX7 117 yX7_isReached, Cond.instanceMethod yX7_isReached, Cond.selects RX7 yX7_isReached yX7_isReached, Cond.code yX7_isReached cX7_isReached 3 (some .boolean), Cond.methodLink RX7 106 yX7_isOut, Cond.instanceMethod yX7_isOut, Cond.selects RX7 yX7_isOut yX7_isOut, Cond.code yX7_isOut cX7_isOut 1 (some .boolean), Cond.methodLink RX7 109 yX7_end, Cond.instanceMethod yX7_end, Cond.selects RX7 yX7_end yX7_end, Cond.code yX7_end cX7_end 3 none, Cond.fieldLink RX7 81 "LockRoomsModel$Room" "lost" "I", Cond.fieldLink RX7 84 "LockRoomsModel$Room" "hints" "I", Cond.fieldLink RX7 87 "LockRoomsModel$Room" "solved" "I", Cond.fieldLink RX7 90 "LockRoomsModel$Room" "scores" "I", Cond.methodLink RX7 93 Lib.Math.min.name, Cond.methodLink RX7 78 yJx4a65c_clear_da8c8, Cond.instanceMethod yJx4a65c_clear_da8c8, Cond.selects RJx4a65c yJx4a65c_clear_da8c8 yJx4a65c_clear_da8c8, Cond.code yJx4a65c_clear_da8c8 cJx4a65c_clear_da8c8 4 none]
def wsX8_endsNow : List Cond := .code yX8_endsNow cX8_endsNow 2 (some .int) :: ((wsX8_endsNow_r1 ++ (wsX8_endsNow_r2 ++ (wsX8_endsNow_r3 ++ (wsX8_endsNow_r4 ++ (wsX8_endsNow_r5 ++ (wsX8_endsNow_r6 ++ (wsX8_endsNow_r7 ++ wsX8_endsNow_r8))))))) ++ wsX80 ++ wsX70 ++ wsJx4a65c0 ++ wsJx354110)
def wsX8_add : List Cond := .code yX8_add cX8_add 2 none :: ([.fieldLink RX8 168 "LockRoomsModel" "sum" "J", .constantLong RX8 172 (31)] ++ wsX80)
def wsX8_digest_r1 : List Cond := [Cond.fieldLink RX8 20 "LockRoomsModel" "thrown" "I", Cond.constantLong RX8 174 (9102), Cond.fieldLink RX8 168 "LockRoomsModel" "sum" "J", Cond.fieldLink RX8 10 "LockRoomsModel" "room" "LLockRoomsModel$Room;", Cond.classLink RX8 88 "[I", Cond.methodLink RX8 140 yX8_manyNow, Cond.instanceMethod yX8_manyNow, Cond.selects RX8 yX8_manyNow yX8_manyNow, Cond.initialized RX8, Cond.code yX8_manyNow cX8_manyNow 3 (some .int), Cond.arrayClass .int, Cond.fieldLink RX8 16 "LockRoomsModel" "hasPower" "Z", Cond.methodLink RX8 28 yJx4a65c_size_8abf5, Cond.instanceMethod yJx4a65c_size_8abf5, Cond.selects RJx4a65c yJx4a65c_size_8abf5 yJx4a65c_size_8abf5, Cond.initialized RJx4a65c, Cond.code yJx4a65c_size_8abf5 cJx4a65c_size_8abf5 1 (some .int), Cond.fieldLink RJx4a65c 48 "java/util/ArrayList" "size" "I", Cond.methodLink RX8 131 yX7_opened, Cond.instanceMethod yX7_opened, Cond.selects RX7 yX7_opened yX7_opened, Cond.initialized RX7, Cond.code yX7_opened cX7_opened 3 (some .int), Cond.fieldLink RX7 12 "LockRoomsModel$Room" "locks" "Ljava/util/ArrayList;"]
def wsX8_digest_r2 : List Cond := [Cond.classLink RX7 46 "[I", Cond.methodLink RX7 62 yJx4a65c_size_8abf5, Cond.methodLink RX7 66 yJx4a65c_get_915e3, Cond.instanceMethod yJx4a65c_get_915e3, Cond.selects RJx4a65c yJx4a65c_get_915e3 yJx4a65c_get_915e3, Cond.code yJx4a65c_get_915e3 cJx4a65c_get_915e3 2 (some (.object "java/lang/Object")), Cond.methodLink RJx4a65c 118 yJ15_checkIndex_7cf53, Cond.static yJ15_checkIndex_7cf53, Cond.initialized RJ15, Cond.code yJ15_checkIndex_7cf53 cJ15_checkIndex_7cf53 2 (some .int), Cond.methodLink RJ15 105 yJ3_checkIndex_8e157, Cond.static yJ3_checkIndex_8e157, Cond.initialized RJ3, Cond.code yJ3_checkIndex_8e157 cJ3_checkIndex_8e157 3 (some .int), Cond.methodLink RJx4a65c 123 yJx4a65c_elementData_915e3, Cond.instanceMethod yJx4a65c_elementData_915e3, Cond.selects RJx4a65c yJx4a65c_elementData_915e3 yJx4a65c_elementData_915e3, Cond.code yJx4a65c_elementData_915e3 cJx4a65c_elementData_915e3 2 (some (.object "java/lang/Object")), Cond.fieldLink RJx4a65c 9 "java/util/ArrayList" "elementData" "[Ljava/lang/Object;", Cond.methodLink RX8 134 yX7_ready, Cond.instanceMethod yX7_ready, Cond.selects RX7 yX7_ready yX7_ready, Cond.code yX7_ready cX7_ready 3 (some .int), Cond.methodLink RX7 74 yX7_isReady]
def wsX8_digest_r3 : List Cond := [Cond.instanceMethod yX7_isReady, Cond.selects RX7 yX7_isReady yX7_isReady, Cond.code yX7_isReady cX7_isReady 3 (some .boolean), Cond.methodLink RX7 70 yX7_inState, Cond.instanceMethod yX7_inState, Cond.selects RX7 yX7_inState yX7_inState, Cond.code yX7_inState cX7_inState 4 (some .int), Cond.fieldLink RX7 18 "LockRoomsModel$Room" "things" "Ljava/util/ArrayList;", Cond.methodLink RX8 100 yX7_inState, Cond.methodLink RX8 176 yX8_add, Cond.instanceMethod yX8_add, Cond.selects RX8 yX8_add yX8_add, Cond.code yX8_add cX8_add 2 none, Cond.constantLong RX8 172 (31), Cond.methodLink RX8 112 yX8_ofLockNow, Cond.instanceMethod yX8_ofLockNow, Cond.selects RX8 yX8_ofLockNow yX8_ofLockNow, Cond.code yX8_ofLockNow cX8_ofLockNow 3 (some .int), Cond.methodLink RX8 84 yJx4a65c_get_915e3, Cond.methodLink RX8 90 yX7_isReady, Cond.methodLink RX8 119 yX8_ofThingNow, Cond.instanceMethod yX8_ofThingNow, Cond.selects RX8 yX8_ofThingNow yX8_ofThingNow, Cond.code yX8_ofThingNow cX8_ofThingNow 5 (some .int)]
def wsX8_digest_r4 : List Cond := [Cond.methodLink RX8 116 yX7_isReached, Cond.instanceMethod yX7_isReached, Cond.selects RX7 yX7_isReached yX7_isReached, Cond.code yX7_isReached cX7_isReached 3 (some .boolean), Cond.methodLink RX8 178 yJx4a65c_iterator_32c93, Cond.instanceMethod yJx4a65c_iterator_32c93, Cond.selects RJx4a65c yJx4a65c_iterator_32c93 yJx4a65c_iterator_32c93, Cond.code yJx4a65c_iterator_32c93 cJx4a65c_iterator_32c93 1 (some (.object "java/util/Iterator")), Cond.classLink RJx4a65c 267 RJx35411, Cond.instantiable RJx35411 4, Cond.initialized RJx35411, Cond.methodLink RJx4a65c 269 yJx35411_init_45d68, Cond.instanceMethod yJx35411_init_45d68, Cond.code yJx35411_init_45d68 cJx35411_init_45d68 2 none, Cond.fieldLink RJx35411 1 "java/util/ArrayList$Itr" "this$0" "Ljava/util/ArrayList;", Cond.methodLink RJx35411 7 objectInit, Cond.instanceMethod objectInit, Cond.code objectInit ⟨#[0xb1]⟩ 1 none, Cond.fieldLink RJx35411 13 "java/util/ArrayList$Itr" "lastRet" "I", Cond.fieldLink RJx35411 17 "java/util/ArrayList" "modCount" "I", Cond.sameField "java/util/ArrayList" "java/util/AbstractList" "modCount" "I", Cond.fieldLink RJx35411 22 "java/util/ArrayList$Itr" "expectedModCount" "I", Cond.methodLink RX8 182 ⟨"java/util/Iterator", "hasNext", "()Z"⟩, Cond.selects RJx35411 ⟨"java/util/Iterator", "hasNext", "()Z"⟩ yJx35411_hasNext_aae02]
def wsX8_digest_r5 : List Cond := [Cond.instanceMethod yJx35411_hasNext_aae02, Cond.code yJx35411_hasNext_aae02 cJx35411_hasNext_aae02 1 (some .boolean), Cond.fieldLink RJx35411 25 "java/util/ArrayList$Itr" "cursor" "I", Cond.methodLink RX8 187 ⟨"java/util/Iterator", "next", "()Ljava/lang/Object;"⟩, Cond.selects RJx35411 ⟨"java/util/Iterator", "next", "()Ljava/lang/Object;"⟩ yJx35411_next_0502b, Cond.instanceMethod yJx35411_next_0502b, Cond.code yJx35411_next_0502b cJx35411_next_0502b 3 (some (.object "java/lang/Object")), Cond.fieldLink RJx35411 37 "java/util/ArrayList" "elementData" "[Ljava/lang/Object;", Cond.methodLink RJx35411 31 yJx35411_checkForComodification_da8c8, Cond.instanceMethod yJx35411_checkForComodification_da8c8, Cond.selects RJx35411 yJx35411_checkForComodification_da8c8 yJx35411_checkForComodification_da8c8, Cond.code yJx35411_checkForComodification_da8c8 cJx35411_checkForComodification_da8c8 1 none, Cond.methodLink RX8 146 yX7_depth_, Cond.instanceMethod yX7_depth_, Cond.selects RX7 yX7_depth_ yX7_depth_, Cond.code yX7_depth_ cX7_depth_ 1 (some .int), Cond.methodLink RX7 135 yX7_opened, Cond.methodLink RX7 138 yX7_depth, Cond.instanceMethod yX7_depth, Cond.selects RX7 yX7_depth yX7_depth, Cond.code yX7_depth cX7_depth 6 (some .int), Cond.methodLink RX7 128 yX7_steps, Cond.instanceMethod yX7_steps, Cond.selects RX7 yX7_steps yX7_steps]
def wsX8_digest_r6 : List Cond := [Cond.code yX7_steps cX7_steps 7 (some (.array .int)), Cond.methodLink RX7 126 yX7_next, Cond.instanceMethod yX7_next, Cond.selects RX7 yX7_next yX7_next, Cond.code yX7_next cX7_next 7 (some .int), Cond.methodLink RX7 123 yX7_atHand, Cond.instanceMethod yX7_atHand, Cond.selects RX7 yX7_atHand yX7_atHand, Cond.code yX7_atHand cX7_atHand 7 (some .int), Cond.methodLink RX7 132 yX7_isEnd, Cond.instanceMethod yX7_isEnd, Cond.selects RX7 yX7_isEnd yX7_isEnd, Cond.code yX7_isEnd cX7_isEnd 2 (some .boolean), Cond.fieldLink RX7 24 "LockRoomsModel$Room" "exit" "I", Cond.methodLink RX8 149 yX7_stands, Cond.instanceMethod yX7_stands, Cond.selects RX7 yX7_stands yX7_stands, Cond.code yX7_stands cX7_stands 6 (some .int), Cond.methodLink RX8 152 yX7_deadEnds, Cond.instanceMethod yX7_deadEnds, Cond.selects RX7 yX7_deadEnds yX7_deadEnds, Cond.code yX7_deadEnds cX7_deadEnds 8 (some .int), Cond.arrayClass .boolean, Cond.methodLink RX8 155 yX8_missNow]
def wsX8_digest_r7 : List Cond := [Cond.instanceMethod yX8_missNow, Cond.selects RX8 yX8_missNow yX8_missNow, Cond.code yX8_missNow cX8_missNow 5 (some .int), Cond.methodLink RX8 158 yX7_bestHint, Cond.instanceMethod yX7_bestHint, Cond.selects RX7 yX7_bestHint yX7_bestHint, Cond.code yX7_bestHint cX7_bestHint 5 (some .int), Cond.methodLink RX8 165 yX8_endsNow, Cond.instanceMethod yX8_endsNow, Cond.selects RX8 yX8_endsNow yX8_endsNow, Cond.code yX8_endsNow cX8_endsNow 2 (some .int), Cond.methodLink RX8 161 yX7_copy, Cond.instanceMethod yX7_copy, Cond.selects RX7 yX7_copy yX7_copy, Cond.code yX7_copy cX7_copy 4 (some (.object "LockRoomsModel$Room")), Cond.classLink RX7 13 RX7, Cond.instantiable RX7 14, Cond.methodLink RX7 48 ⟨"[I", "clone", "()Ljava/lang/Object;"⟩, Cond.sameMethod "[I" "java/lang/Object" "clone" "()Ljava/lang/Object;", Cond.native ⟨"java/lang/Object", "clone", "()Ljava/lang/Object;"⟩, Cond.instanceMethod ⟨"java/lang/Object", "clone", "()Ljava/lang/Object;"⟩, Cond.selects "[I" ⟨"[I", "clone", "()Ljava/lang/Object;"⟩ ⟨"java/lang/Object", "clone", "()Ljava/lang/Object;"⟩, Cond.fieldLink RX7 21 "LockRoomsModel$Room" "players" "Ljava/util/ArrayList;", Cond.fieldLink RX7 55 "LockRoomsModel$Room" "isRunning" "Z"]
def wsX8_digest_r8 : List Cond := [Cond.fieldLink RX7 59 "LockRoomsModel$Room" "time" "I", Cond.methodLink RX7 31 yX7_init, Cond.instanceMethod yX7_init, Cond.code yX7_init cX7_init 1 none, Cond.methodLink RX7 3 objectInit, Cond.classLink RX7 9 RJx4a65c, Cond.instantiable RJx4a65c 3, Cond.fieldLink RX7 28 "LockRoomsModel$Room" "record" "I", Cond.methodLink RX7 11 yJx4a65c_init_da8c8, Cond.instanceMethod yJx4a65c_init_da8c8, Cond.code yJx4a65c_init_da8c8 cJx4a65c_init_da8c8 1 none, Cond.fieldLink RJx4a65c 39 "java/util/ArrayList" "DEFAULTCAPACITY_EMPTY_ELEMENTDATA" "[Ljava/lang/Object;", Cond.methodLink RJx4a65c 1 yJxc12de_init_da8c8, Cond.instanceMethod yJxc12de_init_da8c8, Cond.initialized RJxc12de, Cond.code yJxc12de_init_da8c8 cJxc12de_init_da8c8 1 none, Cond.fieldLink RJxc12de 7 "java/util/AbstractList" "modCount" "I", Cond.methodLink RJxc12de 1 yJxa1e45_init_da8c8, Cond.instanceMethod yJxa1e45_init_da8c8, Cond.initialized RJxa1e45, Cond.code yJxa1e45_init_da8c8 cJxa1e45_init_da8c8 1 none, Cond.methodLink RJxa1e45 1 objectInit, Cond.methodLink RX7 32 yJx4a65c_iterator_32c93, Cond.methodLink RX7 36 ⟨"java/util/Iterator", "hasNext", "()Z"⟩]
def wsX8_digest_r9 : List Cond := [Cond.methodLink RX7 42 ⟨"java/util/Iterator", "next", "()Ljava/lang/Object;"⟩, Cond.methodLink RX7 51 yJx4a65c_add_9ea2d, Cond.instanceMethod yJx4a65c_add_9ea2d, Cond.selects RJx4a65c yJx4a65c_add_9ea2d yJx4a65c_add_9ea2d, Cond.code yJx4a65c_add_9ea2d cJx4a65c_add_9ea2d 2 (some .boolean), Cond.fieldLink RJx4a65c 63 "java/util/ArrayList" "modCount" "I", Cond.methodLink RJx4a65c 131 yJx4a65c_add_72be8, Cond.instanceMethod yJx4a65c_add_72be8, Cond.selects RJx4a65c yJx4a65c_add_72be8 yJx4a65c_add_72be8, Cond.code yJx4a65c_add_72be8 cJx4a65c_add_72be8 4 none, Cond.methodLink RJx4a65c 129 yJx4a65c_grow_d5877, Cond.instanceMethod yJx4a65c_grow_d5877, Cond.selects RJx4a65c yJx4a65c_grow_d5877 yJx4a65c_grow_d5877, Cond.code yJx4a65c_grow_d5877 cJx4a65c_grow_d5877 1 (some (.array (.object "java/lang/Object"))), Cond.methodLink RJx4a65c 69 yJx4a65c_grow_92f84, Cond.instanceMethod yJx4a65c_grow_92f84, Cond.selects RJx4a65c yJx4a65c_grow_92f84 yJx4a65c_grow_92f84, Cond.code yJx4a65c_grow_92f84 cJx4a65c_grow_92f84 4 (some (.array (.object "java/lang/Object"))), Cond.methodLink RJx4a65c 79 Lib.Math.max.name, Cond.static Lib.Math.max.name, Cond.initialized "java/lang/Math", Cond.code Lib.Math.max.name Lib.Math.max.code 2 (some .int), Cond.classLink RJx4a65c 7 "java/lang/Object", Cond.methodLink RJx4a65c 73 yJ8_newLength_cabcc]
def wsX8_digest_r10 : List Cond := [Cond.static yJ8_newLength_cabcc, Cond.initialized RJ8, Cond.code yJ8_newLength_cabcc cJ8_newLength_cabcc 4 (some .int), Cond.methodLink RJ8 194 Lib.Math.max.name, Cond.constant RJ8 200 (2147483639), Cond.methodLink RJ8 201 yJ8_hugeLength_7cf53, Cond.static yJ8_hugeLength_7cf53, Cond.code yJ8_hugeLength_7cf53 cJ8_hugeLength_7cf53 3 (some .int), Cond.methodLink RJx4a65c 66 yJ7_copyOf_1904c, Cond.static yJ7_copyOf_1904c, Cond.initialized RJ7, Cond.code yJ7_copyOf_1904c cJ7_copyOf_1904c 2 (some (.array (.object "java/lang/Object"))), Cond.methodLink RJ7 86 ⟨"java/lang/Object", "getClass", "()Ljava/lang/Class;"⟩, Cond.selects "[Ljava/lang/Object;" ⟨"java/lang/Object", "getClass", "()Ljava/lang/Class;"⟩ ⟨"java/lang/Object", "getClass", "()Ljava/lang/Class;"⟩, Cond.instanceMethod ⟨"java/lang/Object", "getClass", "()Ljava/lang/Class;"⟩, Cond.native ⟨"java/lang/Object", "getClass", "()Ljava/lang/Class;"⟩, Cond.methodLink RJ7 300 yJ7_copyOf_6403c, Cond.static yJ7_copyOf_6403c, Cond.code yJ7_copyOf_6403c cJ7_copyOf_6403c 4 (some (.array (.object "java/lang/Object"))), Cond.classLink RJ7 110 "[Ljava/lang/Object;", Cond.classLink RJ7 2 "java/lang/Object", Cond.methodLink RJ7 304 Lib.Math.min.name, Cond.static Lib.Math.min.name, Cond.code Lib.Math.min.name Lib.Math.min.code 2 (some .int)]
def wsX8_digest_r11 : List Cond := [Cond.methodLink RJ7 150 arraycopyName, Cond.native arraycopyName, Cond.static arraycopyName, Cond.initialized "java/lang/System", Cond.methodLink RX8 81 yX7_pass, Cond.instanceMethod yX7_pass, Cond.selects RX7 yX7_pass yX7_pass, Cond.code yX7_pass cX7_pass 3 (some .int), Cond.fieldLink RX7 99 "LockRoomsModel$Room" "now" "I", Cond.methodLink RX7 102 yX7_act, Cond.instanceMethod yX7_act, Cond.selects RX7 yX7_act yX7_act, Cond.code yX7_act cX7_act 4 (some .int), Cond.fieldLink RX7 120 "LockRoomsModel$Room" "idled" "I", Cond.methodLink RX7 113 yX7_open, Cond.instanceMethod yX7_open, Cond.selects RX7 yX7_open yX7_open, Cond.code yX7_open cX7_open 4 none, Cond.methodLink RX7 117 yX7_isReached, Cond.methodLink RX7 106 yX7_isOut, Cond.instanceMethod yX7_isOut, Cond.selects RX7 yX7_isOut yX7_isOut, Cond.code yX7_isOut cX7_isOut 1 (some .boolean), Cond.methodLink RX7 109 yX7_end]
def wsX8_digest_r12 : List Cond := [Cond.instanceMethod yX7_end, Cond.selects RX7 yX7_end yX7_end, Cond.code yX7_end cX7_end 3 none, Cond.fieldLink RX7 81 "LockRoomsModel$Room" "lost" "I", Cond.fieldLink RX7 84 "LockRoomsModel$Room" "hints" "I", Cond.fieldLink RX7 87 "LockRoomsModel$Room" "solved" "I", Cond.fieldLink RX7 90 "LockRoomsModel$Room" "scores" "I", Cond.methodLink RX7 93 Lib.Math.min.name, Cond.methodLink RX7 78 yJx4a65c_clear_da8c8, Cond.instanceMethod yJx4a65c_clear_da8c8, Cond.selects RJx4a65c yJx4a65c_clear_da8c8 yJx4a65c_clear_da8c8, Cond.code yJx4a65c_clear_da8c8 cJx4a65c_clear_da8c8 4 none]
def wsX8_digest : List Cond := .code yX8_digest cX8_digest 7 (some .long) :: ((wsX8_digest_r1 ++ (wsX8_digest_r2 ++ (wsX8_digest_r3 ++ (wsX8_digest_r4 ++ (wsX8_digest_r5 ++ (wsX8_digest_r6 ++ (wsX8_digest_r7 ++ (wsX8_digest_r8 ++ (wsX8_digest_r9 ++ (wsX8_digest_r10 ++ (wsX8_digest_r11 ++ wsX8_digest_r12))))))))))) ++ wsX80 ++ wsX70 ++ wsJx4a65c0 ++ wsJx354110)
def wsL_lock_r1 : List Cond := [Cond.classLink RL 13 "java/lang/IllegalArgumentException", Cond.methodLink RL 7 yX6_lock, Cond.instanceMethod yX6_lock, Cond.selects RX6 yX6_lock yX6_lock, Cond.initialized RX6, Cond.code yX6_lock cX6_lock 6 (some .int), Cond.classLink RX6 30 "java/lang/IllegalArgumentException", Cond.initialized "java/lang/IllegalArgumentException", Cond.classLink RX6 51 "java/lang/IllegalStateException", Cond.initialized "java/lang/IllegalStateException", Cond.fieldLink RX6 12 "LockRooms" "room" "LLockRooms$Room;", Cond.fieldLink RX6 37 "LockRooms$Room" "lockCount" "I", Cond.fieldLink RX6 41 "LockRooms$Room" "games" "LLockRooms$Games;", Cond.fieldLink RX6 45 "LockRooms$Games" "isRunning" "Z", Cond.methodLink RX6 26 yX6_isWithin, Cond.static yX6_isWithin, Cond.code yX6_isWithin cX6_isWithin 3 (some .boolean), Cond.methodLink RX6 56 yX3_addLock, Cond.instanceMethod yX3_addLock, Cond.selects RX3 yX3_addLock yX3_addLock, Cond.initialized RX3, Cond.code yX3_addLock cX3_addLock 8 (some .int), Cond.fieldLink RX3 47 "LockRooms$Room" "lockCount" "I", Cond.fieldLink RX3 11 "LockRooms$Room" "locks" "[LLockRooms$Lock;"]
def wsL_lock_r2 : List Cond := [Cond.fieldLink RX3 78 "LockRooms$Lock" "needs" "I", Cond.fieldLink RX3 81 "LockRooms$Lock" "keeps" "I", Cond.fieldLink RX3 84 "LockRooms$Lock" "hard" "I", Cond.fieldLink RX3 87 "LockRooms$Lock" "isMagnet" "Z", Cond.fieldLink RX3 36 "LockRooms$Room" "exit" "I"]
def wsL_lock : List Cond := .codeWith yL_lock cL_lock 8 (some .int) [(0, 16, 19, 13), (0, 16, 23, 15)] :: ((wsL_lock_r1 ++ wsL_lock_r2) ++ wsX60 ++ wsX30 ++ wsX00 ++ wsX10 ++ (vx_atS RX6 34 "java/lang/IllegalArgumentException" ["java/lang/RuntimeException", "java/lang/Exception"]).filter goodWord ++ (vx_atS RX6 55 "java/lang/IllegalStateException" ["java/lang/RuntimeException", "java/lang/Exception"]).filter goodWord)
def wsL_thing_r1 : List Cond := [Cond.classLink RL 21 "java/lang/IndexOutOfBoundsException", Cond.methodLink RL 17 yX6_thing, Cond.instanceMethod yX6_thing, Cond.selects RX6 yX6_thing yX6_thing, Cond.initialized RX6, Cond.code yX6_thing cX6_thing 3 (some .int), Cond.classLink RX6 64 "java/lang/IndexOutOfBoundsException", Cond.initialized "java/lang/IndexOutOfBoundsException", Cond.classLink RX6 30 "java/lang/IllegalArgumentException", Cond.initialized "java/lang/IllegalArgumentException", Cond.classLink RX6 51 "java/lang/IllegalStateException", Cond.initialized "java/lang/IllegalStateException", Cond.fieldLink RX6 12 "LockRooms" "room" "LLockRooms$Room;", Cond.fieldLink RX6 71 "LockRooms$Room" "thingCount" "I", Cond.fieldLink RX6 41 "LockRooms$Room" "games" "LLockRooms$Games;", Cond.fieldLink RX6 45 "LockRooms$Games" "isRunning" "Z", Cond.methodLink RX6 60 yX3_hasLock, Cond.instanceMethod yX3_hasLock, Cond.selects RX3 yX3_hasLock yX3_hasLock, Cond.initialized RX3, Cond.code yX3_hasLock cX3_hasLock 2 (some .boolean), Cond.fieldLink RX3 47 "LockRooms$Room" "lockCount" "I", Cond.methodLink RX6 26 yX6_isWithin, Cond.static yX6_isWithin]
def wsL_thing_r2 : List Cond := [Cond.code yX6_isWithin cX6_isWithin 3 (some .boolean), Cond.methodLink RX6 76 yX3_addThing, Cond.instanceMethod yX3_addThing, Cond.selects RX3 yX3_addThing yX3_addThing, Cond.code yX3_addThing cX3_addThing 5 (some .int), Cond.fieldLink RX3 54 "LockRooms$Room" "thingCount" "I", Cond.fieldLink RX3 19 "LockRooms$Room" "things" "[LLockRooms$Thing;", Cond.fieldLink RX3 90 "LockRooms$Thing" "place" "I", Cond.fieldLink RX3 93 "LockRooms$Thing" "hid" "I"]
def wsL_thing : List Cond := .codeWith yL_thing cL_thing 5 (some .int) [(0, 10, 13, 21), (0, 10, 17, 13), (0, 10, 21, 15)] :: ((wsL_thing_r1 ++ wsL_thing_r2) ++ wsX60 ++ wsX30 ++ wsX00 ++ wsX50 ++ (vx_atS RX6 68 "java/lang/IndexOutOfBoundsException" ["java/lang/RuntimeException", "java/lang/Exception"]).filter goodWord ++ (vx_atS RX6 34 "java/lang/IllegalArgumentException" ["java/lang/RuntimeException", "java/lang/Exception"]).filter goodWord ++ (vx_atS RX6 55 "java/lang/IllegalStateException" ["java/lang/RuntimeException", "java/lang/Exception"]).filter goodWord)
theorem dX0_init_0 : decode cX0_init 0 = .ok (.aload_n 0, 1) := by decide +kernel
theorem dX0_init_1 : decode cX0_init 1 = .ok (.invokespecial 3, 3) := by decide +kernel
theorem dX0_init_4 : decode cX0_init 4 = .ok (.aload_n 0, 1) := by decide +kernel
theorem dX0_init_5 : decode cX0_init 5 = .ok (.iconst (-1), 1) := by decide +kernel
theorem dX0_init_6 : decode cX0_init 6 = .ok (.putfield 9, 3) := by decide +kernel
theorem dX0_init_9 : decode cX0_init 9 = .ok (.return_, 1) := by decide +kernel
theorem dX1_init_0 : decode cX1_init 0 = .ok (.aload_n 0, 1) := by decide +kernel
theorem dX1_init_1 : decode cX1_init 1 = .ok (.invokespecial 3, 3) := by decide +kernel
theorem dX1_init_4 : decode cX1_init 4 = .ok (.return_, 1) := by decide +kernel
theorem dX1_isReady_0 : decode cX1_isReady 0 = .ok (.aload_n 0, 1) := by decide +kernel
theorem dX1_isReady_1 : decode cX1_isReady 1 = .ok (.getfield 25, 3) := by decide +kernel
theorem dX1_isReady_4 : decode cX1_isReady 4 = .ok (.ifCond .ne 25, 3) := by decide +kernel
theorem dX1_isReady_7 : decode cX1_isReady 7 = .ok (.aload_n 0, 1) := by decide +kernel
theorem dX1_isReady_8 : decode cX1_isReady 8 = .ok (.getfield 28, 3) := by decide +kernel
theorem dX1_isReady_11 : decode cX1_isReady 11 = .ok (.ifCond .ne 18, 3) := by decide +kernel
theorem dX1_isReady_14 : decode cX1_isReady 14 = .ok (.aload_n 0, 1) := by decide +kernel
theorem dX1_isReady_15 : decode cX1_isReady 15 = .ok (.getfield 9, 3) := by decide +kernel
theorem dX1_isReady_18 : decode cX1_isReady 18 = .ok (.iload_n 1, 1) := by decide +kernel
theorem dX1_isReady_19 : decode cX1_isReady 19 = .ok (.iconst (-1), 1) := by decide +kernel
theorem dX1_isReady_20 : decode cX1_isReady 20 = .ok (.ixor, 1) := by decide +kernel
theorem dX1_isReady_21 : decode cX1_isReady 21 = .ok (.iand, 1) := by decide +kernel
theorem dX1_isReady_22 : decode cX1_isReady 22 = .ok (.ifCond .ne 7, 3) := by decide +kernel
theorem dX1_isReady_25 : decode cX1_isReady 25 = .ok (.iconst 1, 1) := by decide +kernel
theorem dX1_isReady_26 : decode cX1_isReady 26 = .ok (.goto 4, 3) := by decide +kernel
theorem dX1_isReady_30 : decode cX1_isReady 30 = .ok (.ireturn, 1) := by decide +kernel
theorem dX2_init_0 : decode cX2_init 0 = .ok (.aload_n 0, 1) := by decide +kernel
theorem dX2_init_1 : decode cX2_init 1 = .ok (.invokespecial 3, 3) := by decide +kernel
theorem dX2_init_4 : decode cX2_init 4 = .ok (.return_, 1) := by decide +kernel
set_option maxRecDepth 20000 in
theorem ggX3_init_X0_init : GoodIn wsX3_init wsX0_init := goodIn_r _ [23, 24, 2, 3, 25, 47, 48, 49, 50, 51, 52, 53] (by decide +kernel) (by decide +kernel)
set_option maxRecDepth 20000 in
theorem gX3_init_X0_init_n31 : GoodIn wsX3_init (wsX0_init) := ggX3_init_X0_init
set_option maxRecDepth 20000 in
theorem ggX3_init_X1_init : GoodIn wsX3_init wsX1_init := goodIn_r _ [27, 28, 2, 3] (by decide +kernel) (by decide +kernel)
set_option maxRecDepth 20000 in
theorem gX3_init_X1_init_n44 : GoodIn wsX3_init (wsX1_init) := ggX3_init_X1_init
set_option maxRecDepth 20000 in
theorem ggX3_init_X5_init : GoodIn wsX3_init wsX5_init := goodIn_r _ [30, 31, 2, 3] (by decide +kernel) (by decide +kernel)
set_option maxRecDepth 20000 in
theorem gX3_init_X5_init_n45 : GoodIn wsX3_init (wsX5_init) := ggX3_init_X5_init
set_option maxRecDepth 20000 in
theorem ggX3_init_X2_init : GoodIn wsX3_init wsX2_init := goodIn_r _ [33, 34, 2, 3] (by decide +kernel) (by decide +kernel)
set_option maxRecDepth 20000 in
theorem gX3_init_X2_init_n46 : GoodIn wsX3_init (wsX2_init) := ggX3_init_X2_init
theorem dX3_init_0 : decode cX3_init 0 = .ok (.aload_n 0, 1) := by decide +kernel
theorem dX3_init_1 : decode cX3_init 1 = .ok (.invokespecial 3, 3) := by decide +kernel
theorem dX3_init_4 : decode cX3_init 4 = .ok (.aload_n 0, 1) := by decide +kernel
theorem dX3_init_5 : decode cX3_init 5 = .ok (.bipush 10, 2) := by decide +kernel
theorem dX3_init_7 : decode cX3_init 7 = .ok (.anewarray 9, 3) := by decide +kernel
theorem dX3_init_10 : decode cX3_init 10 = .ok (.putfield 11, 3) := by decide +kernel
theorem dX3_init_13 : decode cX3_init 13 = .ok (.aload_n 0, 1) := by decide +kernel
theorem dX3_init_14 : decode cX3_init 14 = .ok (.bipush 12, 2) := by decide +kernel
theorem dX3_init_16 : decode cX3_init 16 = .ok (.anewarray 17, 3) := by decide +kernel
theorem dX3_init_19 : decode cX3_init 19 = .ok (.putfield 19, 3) := by decide +kernel
theorem dX3_init_22 : decode cX3_init 22 = .ok (.aload_n 0, 1) := by decide +kernel
theorem dX3_init_23 : decode cX3_init 23 = .ok (.bipush 6, 2) := by decide +kernel
theorem dX3_init_25 : decode cX3_init 25 = .ok (.anewarray 23, 3) := by decide +kernel
theorem dX3_init_28 : decode cX3_init 28 = .ok (.putfield 25, 3) := by decide +kernel
theorem dX3_init_31 : decode cX3_init 31 = .ok (.aload_n 0, 1) := by decide +kernel
theorem dX3_init_32 : decode cX3_init 32 = .ok (.new 29, 3) := by decide +kernel
theorem dX3_init_35 : decode cX3_init 35 = .ok (.dup, 1) := by decide +kernel
theorem dX3_init_36 : decode cX3_init 36 = .ok (.invokespecial 31, 3) := by decide +kernel
theorem dX3_init_39 : decode cX3_init 39 = .ok (.putfield 32, 3) := by decide +kernel
theorem dX3_init_42 : decode cX3_init 42 = .ok (.aload_n 0, 1) := by decide +kernel
theorem dX3_init_43 : decode cX3_init 43 = .ok (.iconst (-1), 1) := by decide +kernel
theorem dX3_init_44 : decode cX3_init 44 = .ok (.putfield 36, 3) := by decide +kernel
theorem dX3_init_47 : decode cX3_init 47 = .ok (.aload_n 0, 1) := by decide +kernel
theorem dX3_init_48 : decode cX3_init 48 = .ok (.iconst 1, 1) := by decide +kernel
theorem dX3_init_49 : decode cX3_init 49 = .ok (.putfield 40, 3) := by decide +kernel
theorem dX3_init_52 : decode cX3_init 52 = .ok (.iconst 0, 1) := by decide +kernel
theorem dX3_init_53 : decode cX3_init 53 = .ok (.istore_n 1, 1) := by decide +kernel
theorem dX3_init_54 : decode cX3_init 54 = .ok (.iload_n 1, 1) := by decide +kernel
theorem dX3_init_55 : decode cX3_init 55 = .ok (.bipush 10, 2) := by decide +kernel
theorem dX3_init_57 : decode cX3_init 57 = .ok (.if_icmp .ge 22, 3) := by decide +kernel
theorem dX3_init_60 : decode cX3_init 60 = .ok (.aload_n 0, 1) := by decide +kernel
theorem dX3_init_61 : decode cX3_init 61 = .ok (.getfield 11, 3) := by decide +kernel
theorem dX3_init_64 : decode cX3_init 64 = .ok (.iload_n 1, 1) := by decide +kernel
theorem dX3_init_65 : decode cX3_init 65 = .ok (.new 9, 3) := by decide +kernel
theorem dX3_init_68 : decode cX3_init 68 = .ok (.dup, 1) := by decide +kernel
theorem dX3_init_69 : decode cX3_init 69 = .ok (.invokespecial 44, 3) := by decide +kernel
theorem dX3_init_72 : decode cX3_init 72 = .ok (.aastore, 1) := by decide +kernel
theorem dX3_init_73 : decode cX3_init 73 = .ok (.iinc 1 1, 3) := by decide +kernel
theorem dX3_init_76 : decode cX3_init 76 = .ok (.goto (-22), 3) := by decide +kernel
theorem dX3_init_79 : decode cX3_init 79 = .ok (.iconst 0, 1) := by decide +kernel
theorem dX3_init_80 : decode cX3_init 80 = .ok (.istore_n 1, 1) := by decide +kernel
theorem dX3_init_81 : decode cX3_init 81 = .ok (.iload_n 1, 1) := by decide +kernel
theorem dX3_init_82 : decode cX3_init 82 = .ok (.bipush 12, 2) := by decide +kernel
theorem dX3_init_84 : decode cX3_init 84 = .ok (.if_icmp .ge 22, 3) := by decide +kernel
theorem dX3_init_87 : decode cX3_init 87 = .ok (.aload_n 0, 1) := by decide +kernel
theorem dX3_init_88 : decode cX3_init 88 = .ok (.getfield 19, 3) := by decide +kernel
theorem dX3_init_91 : decode cX3_init 91 = .ok (.iload_n 1, 1) := by decide +kernel
theorem dX3_init_92 : decode cX3_init 92 = .ok (.new 17, 3) := by decide +kernel
theorem dX3_init_95 : decode cX3_init 95 = .ok (.dup, 1) := by decide +kernel
theorem dX3_init_96 : decode cX3_init 96 = .ok (.invokespecial 45, 3) := by decide +kernel
theorem dX3_init_99 : decode cX3_init 99 = .ok (.aastore, 1) := by decide +kernel
theorem dX3_init_100 : decode cX3_init 100 = .ok (.iinc 1 1, 3) := by decide +kernel
theorem dX3_init_103 : decode cX3_init 103 = .ok (.goto (-22), 3) := by decide +kernel
theorem dX3_init_106 : decode cX3_init 106 = .ok (.iconst 0, 1) := by decide +kernel
theorem dX3_init_107 : decode cX3_init 107 = .ok (.istore_n 1, 1) := by decide +kernel
theorem dX3_init_108 : decode cX3_init 108 = .ok (.iload_n 1, 1) := by decide +kernel
theorem dX3_init_109 : decode cX3_init 109 = .ok (.bipush 6, 2) := by decide +kernel
theorem dX3_init_111 : decode cX3_init 111 = .ok (.if_icmp .ge 22, 3) := by decide +kernel
theorem dX3_init_114 : decode cX3_init 114 = .ok (.aload_n 0, 1) := by decide +kernel
theorem dX3_init_115 : decode cX3_init 115 = .ok (.getfield 25, 3) := by decide +kernel
theorem dX3_init_118 : decode cX3_init 118 = .ok (.iload_n 1, 1) := by decide +kernel
theorem dX3_init_119 : decode cX3_init 119 = .ok (.new 23, 3) := by decide +kernel
theorem dX3_init_122 : decode cX3_init 122 = .ok (.dup, 1) := by decide +kernel
theorem dX3_init_123 : decode cX3_init 123 = .ok (.invokespecial 46, 3) := by decide +kernel
theorem dX3_init_126 : decode cX3_init 126 = .ok (.aastore, 1) := by decide +kernel
theorem dX3_init_127 : decode cX3_init 127 = .ok (.iinc 1 1, 3) := by decide +kernel
theorem dX3_init_130 : decode cX3_init 130 = .ok (.goto (-22), 3) := by decide +kernel
theorem dX3_init_133 : decode cX3_init 133 = .ok (.return_, 1) := by decide +kernel
theorem dX3_hasLock_0 : decode cX3_hasLock 0 = .ok (.iload_n 1, 1) := by decide +kernel
theorem dX3_hasLock_1 : decode cX3_hasLock 1 = .ok (.ifCond .lt 15, 3) := by decide +kernel
theorem dX3_hasLock_4 : decode cX3_hasLock 4 = .ok (.iload_n 1, 1) := by decide +kernel
theorem dX3_hasLock_5 : decode cX3_hasLock 5 = .ok (.aload_n 0, 1) := by decide +kernel
theorem dX3_hasLock_6 : decode cX3_hasLock 6 = .ok (.getfield 47, 3) := by decide +kernel
theorem dX3_hasLock_9 : decode cX3_hasLock 9 = .ok (.if_icmp .ge 7, 3) := by decide +kernel
theorem dX3_hasLock_12 : decode cX3_hasLock 12 = .ok (.iconst 1, 1) := by decide +kernel
theorem dX3_hasLock_13 : decode cX3_hasLock 13 = .ok (.goto 4, 3) := by decide +kernel
theorem dX3_hasLock_17 : decode cX3_hasLock 17 = .ok (.ireturn, 1) := by decide +kernel
theorem dX3_hasThing_0 : decode cX3_hasThing 0 = .ok (.iload_n 1, 1) := by decide +kernel
theorem dX3_hasThing_1 : decode cX3_hasThing 1 = .ok (.ifCond .lt 15, 3) := by decide +kernel
theorem dX3_hasThing_4 : decode cX3_hasThing 4 = .ok (.iload_n 1, 1) := by decide +kernel
theorem dX3_hasThing_5 : decode cX3_hasThing 5 = .ok (.aload_n 0, 1) := by decide +kernel
theorem dX3_hasThing_6 : decode cX3_hasThing 6 = .ok (.getfield 54, 3) := by decide +kernel
theorem dX3_hasThing_9 : decode cX3_hasThing 9 = .ok (.if_icmp .ge 7, 3) := by decide +kernel
theorem dX3_hasThing_12 : decode cX3_hasThing 12 = .ok (.iconst 1, 1) := by decide +kernel
theorem dX3_hasThing_13 : decode cX3_hasThing 13 = .ok (.goto 4, 3) := by decide +kernel
theorem dX3_hasThing_17 : decode cX3_hasThing 17 = .ok (.ireturn, 1) := by decide +kernel
theorem dX3_addLock_0 : decode cX3_addLock 0 = .ok (.aload_n 0, 1) := by decide +kernel
theorem dX3_addLock_1 : decode cX3_addLock 1 = .ok (.getfield 47, 3) := by decide +kernel
theorem dX3_addLock_4 : decode cX3_addLock 4 = .ok (.istore 6, 2) := by decide +kernel
theorem dX3_addLock_6 : decode cX3_addLock 6 = .ok (.iload 6, 2) := by decide +kernel
theorem dX3_addLock_8 : decode cX3_addLock 8 = .ok (.bipush 10, 2) := by decide +kernel
theorem dX3_addLock_10 : decode cX3_addLock 10 = .ok (.if_icmp .lt 5, 3) := by decide +kernel
theorem dX3_addLock_15 : decode cX3_addLock 15 = .ok (.aload_n 0, 1) := by decide +kernel
theorem dX3_addLock_16 : decode cX3_addLock 16 = .ok (.getfield 11, 3) := by decide +kernel
theorem dX3_addLock_19 : decode cX3_addLock 19 = .ok (.iload 6, 2) := by decide +kernel
theorem dX3_addLock_21 : decode cX3_addLock 21 = .ok (.aaload, 1) := by decide +kernel
theorem dX3_addLock_22 : decode cX3_addLock 22 = .ok (.astore 7, 2) := by decide +kernel
theorem dX3_addLock_24 : decode cX3_addLock 24 = .ok (.aload 7, 2) := by decide +kernel
theorem dX3_addLock_26 : decode cX3_addLock 26 = .ok (.iload_n 1, 1) := by decide +kernel
theorem dX3_addLock_27 : decode cX3_addLock 27 = .ok (.putfield 78, 3) := by decide +kernel
theorem dX3_addLock_30 : decode cX3_addLock 30 = .ok (.aload 7, 2) := by decide +kernel
theorem dX3_addLock_32 : decode cX3_addLock 32 = .ok (.iload_n 2, 1) := by decide +kernel
theorem dX3_addLock_33 : decode cX3_addLock 33 = .ok (.putfield 81, 3) := by decide +kernel
theorem dX3_addLock_36 : decode cX3_addLock 36 = .ok (.aload 7, 2) := by decide +kernel
theorem dX3_addLock_38 : decode cX3_addLock 38 = .ok (.iload_n 3, 1) := by decide +kernel
theorem dX3_addLock_39 : decode cX3_addLock 39 = .ok (.putfield 84, 3) := by decide +kernel
theorem dX3_addLock_42 : decode cX3_addLock 42 = .ok (.aload 7, 2) := by decide +kernel
theorem dX3_addLock_44 : decode cX3_addLock 44 = .ok (.iload 4, 2) := by decide +kernel
theorem dX3_addLock_46 : decode cX3_addLock 46 = .ok (.putfield 87, 3) := by decide +kernel
theorem dX3_addLock_49 : decode cX3_addLock 49 = .ok (.iload 5, 2) := by decide +kernel
theorem dX3_addLock_51 : decode cX3_addLock 51 = .ok (.ifCond .eq 9, 3) := by decide +kernel
theorem dX3_addLock_54 : decode cX3_addLock 54 = .ok (.aload_n 0, 1) := by decide +kernel
theorem dX3_addLock_55 : decode cX3_addLock 55 = .ok (.iload 6, 2) := by decide +kernel
theorem dX3_addLock_57 : decode cX3_addLock 57 = .ok (.putfield 36, 3) := by decide +kernel
theorem dX3_addLock_60 : decode cX3_addLock 60 = .ok (.aload_n 0, 1) := by decide +kernel
theorem dX3_addLock_61 : decode cX3_addLock 61 = .ok (.dup, 1) := by decide +kernel
theorem dX3_addLock_62 : decode cX3_addLock 62 = .ok (.getfield 47, 3) := by decide +kernel
theorem dX3_addLock_65 : decode cX3_addLock 65 = .ok (.iconst 1, 1) := by decide +kernel
theorem dX3_addLock_66 : decode cX3_addLock 66 = .ok (.iadd, 1) := by decide +kernel
theorem dX3_addLock_67 : decode cX3_addLock 67 = .ok (.putfield 47, 3) := by decide +kernel
theorem dX3_addLock_70 : decode cX3_addLock 70 = .ok (.iload 6, 2) := by decide +kernel
theorem dX3_addLock_72 : decode cX3_addLock 72 = .ok (.ireturn, 1) := by decide +kernel
theorem dX3_addThing_0 : decode cX3_addThing 0 = .ok (.aload_n 0, 1) := by decide +kernel
theorem dX3_addThing_1 : decode cX3_addThing 1 = .ok (.getfield 54, 3) := by decide +kernel
theorem dX3_addThing_4 : decode cX3_addThing 4 = .ok (.istore_n 3, 1) := by decide +kernel
theorem dX3_addThing_5 : decode cX3_addThing 5 = .ok (.iload_n 3, 1) := by decide +kernel
theorem dX3_addThing_6 : decode cX3_addThing 6 = .ok (.bipush 12, 2) := by decide +kernel
theorem dX3_addThing_8 : decode cX3_addThing 8 = .ok (.if_icmp .lt 5, 3) := by decide +kernel
theorem dX3_addThing_13 : decode cX3_addThing 13 = .ok (.aload_n 0, 1) := by decide +kernel
theorem dX3_addThing_14 : decode cX3_addThing 14 = .ok (.getfield 19, 3) := by decide +kernel
theorem dX3_addThing_17 : decode cX3_addThing 17 = .ok (.iload_n 3, 1) := by decide +kernel
theorem dX3_addThing_18 : decode cX3_addThing 18 = .ok (.aaload, 1) := by decide +kernel
theorem dX3_addThing_19 : decode cX3_addThing 19 = .ok (.astore 4, 2) := by decide +kernel
theorem dX3_addThing_21 : decode cX3_addThing 21 = .ok (.aload 4, 2) := by decide +kernel
theorem dX3_addThing_23 : decode cX3_addThing 23 = .ok (.iload_n 1, 1) := by decide +kernel
theorem dX3_addThing_24 : decode cX3_addThing 24 = .ok (.putfield 90, 3) := by decide +kernel
theorem dX3_addThing_27 : decode cX3_addThing 27 = .ok (.aload 4, 2) := by decide +kernel
theorem dX3_addThing_29 : decode cX3_addThing 29 = .ok (.iload_n 2, 1) := by decide +kernel
theorem dX3_addThing_30 : decode cX3_addThing 30 = .ok (.putfield 93, 3) := by decide +kernel
theorem dX3_addThing_33 : decode cX3_addThing 33 = .ok (.aload_n 0, 1) := by decide +kernel
theorem dX3_addThing_34 : decode cX3_addThing 34 = .ok (.dup, 1) := by decide +kernel
theorem dX3_addThing_35 : decode cX3_addThing 35 = .ok (.getfield 54, 3) := by decide +kernel
theorem dX3_addThing_38 : decode cX3_addThing 38 = .ok (.iconst 1, 1) := by decide +kernel
theorem dX3_addThing_39 : decode cX3_addThing 39 = .ok (.iadd, 1) := by decide +kernel
theorem dX3_addThing_40 : decode cX3_addThing 40 = .ok (.putfield 54, 3) := by decide +kernel
theorem dX3_addThing_43 : decode cX3_addThing 43 = .ok (.iload_n 3, 1) := by decide +kernel
theorem dX3_addThing_44 : decode cX3_addThing 44 = .ok (.ireturn, 1) := by decide +kernel
theorem dX3_openLocks_0 : decode cX3_openLocks 0 = .ok (.iconst 0, 1) := by decide +kernel
theorem dX3_openLocks_1 : decode cX3_openLocks 1 = .ok (.istore_n 1, 1) := by decide +kernel
theorem dX3_openLocks_2 : decode cX3_openLocks 2 = .ok (.iconst 0, 1) := by decide +kernel
theorem dX3_openLocks_3 : decode cX3_openLocks 3 = .ok (.istore_n 2, 1) := by decide +kernel
theorem dX3_openLocks_4 : decode cX3_openLocks 4 = .ok (.iload_n 2, 1) := by decide +kernel
theorem dX3_openLocks_5 : decode cX3_openLocks 5 = .ok (.aload_n 0, 1) := by decide +kernel
theorem dX3_openLocks_6 : decode cX3_openLocks 6 = .ok (.getfield 47, 3) := by decide +kernel
theorem dX3_openLocks_9 : decode cX3_openLocks 9 = .ok (.if_icmp .ge 27, 3) := by decide +kernel
theorem dX3_openLocks_12 : decode cX3_openLocks 12 = .ok (.aload_n 0, 1) := by decide +kernel
theorem dX3_openLocks_13 : decode cX3_openLocks 13 = .ok (.getfield 11, 3) := by decide +kernel
theorem dX3_openLocks_16 : decode cX3_openLocks 16 = .ok (.iload_n 2, 1) := by decide +kernel
theorem dX3_openLocks_17 : decode cX3_openLocks 17 = .ok (.aaload, 1) := by decide +kernel
theorem dX3_openLocks_18 : decode cX3_openLocks 18 = .ok (.getfield 100, 3) := by decide +kernel
theorem dX3_openLocks_21 : decode cX3_openLocks 21 = .ok (.ifCond .eq 9, 3) := by decide +kernel
theorem dX3_openLocks_30 : decode cX3_openLocks 30 = .ok (.iinc 2 1, 3) := by decide +kernel
theorem dX3_openLocks_33 : decode cX3_openLocks 33 = .ok (.goto (-29), 3) := by decide +kernel
theorem dX3_openLocks_36 : decode cX3_openLocks 36 = .ok (.iload_n 1, 1) := by decide +kernel
theorem dX3_openLocks_37 : decode cX3_openLocks 37 = .ok (.ireturn, 1) := by decide +kernel
set_option maxRecDepth 20000 in
theorem ggX3_readyLocks_X3_thingsIn : GoodIn wsX3_readyLocks wsX3_thingsIn := goodIn_r _ [7, 8, 9, 10, 19, 20, 21, 22, 23, 24, 25, 26, 27, 28, 29, 30, 31, 32, 33, 34, 35] (by decide +kernel) (by decide +kernel)
set_option maxRecDepth 20000 in
theorem gX3_readyLocks_X3_thingsIn : GoodIn wsX3_readyLocks (wsV RX3 103 RX3 yX3_thingsIn wsX3_thingsIn) := goodIn_app (goodIn_of _ (by decide +kernel)) ggX3_readyLocks_X3_thingsIn
set_option maxRecDepth 20000 in
theorem ggX3_readyLocks_X1_isReady : GoodIn wsX3_readyLocks wsX1_isReady := goodIn_r _ [15, 16, 17, 18, 36, 37, 38, 39, 40, 41, 42, 43, 44, 45] (by decide +kernel) (by decide +kernel)
set_option maxRecDepth 20000 in
theorem gX3_readyLocks_X1_isReady : GoodIn wsX3_readyLocks (wsV RX3 107 RX1 yX1_isReady wsX1_isReady) := goodIn_app (goodIn_of _ (by decide +kernel)) ggX3_readyLocks_X1_isReady
theorem dX3_readyLocks_0 : decode cX3_readyLocks 0 = .ok (.aload_n 0, 1) := by decide +kernel
theorem dX3_readyLocks_1 : decode cX3_readyLocks 1 = .ok (.iconst 1, 1) := by decide +kernel
theorem dX3_readyLocks_2 : decode cX3_readyLocks 2 = .ok (.invokevirtual 103, 3) := by decide +kernel
theorem dX3_readyLocks_5 : decode cX3_readyLocks 5 = .ok (.istore_n 1, 1) := by decide +kernel
theorem dX3_readyLocks_6 : decode cX3_readyLocks 6 = .ok (.iconst 0, 1) := by decide +kernel
theorem dX3_readyLocks_7 : decode cX3_readyLocks 7 = .ok (.istore_n 2, 1) := by decide +kernel
theorem dX3_readyLocks_8 : decode cX3_readyLocks 8 = .ok (.iconst 0, 1) := by decide +kernel
theorem dX3_readyLocks_9 : decode cX3_readyLocks 9 = .ok (.istore_n 3, 1) := by decide +kernel
theorem dX3_readyLocks_10 : decode cX3_readyLocks 10 = .ok (.iload_n 3, 1) := by decide +kernel
theorem dX3_readyLocks_11 : decode cX3_readyLocks 11 = .ok (.aload_n 0, 1) := by decide +kernel
theorem dX3_readyLocks_12 : decode cX3_readyLocks 12 = .ok (.getfield 47, 3) := by decide +kernel
theorem dX3_readyLocks_15 : decode cX3_readyLocks 15 = .ok (.if_icmp .ge 28, 3) := by decide +kernel
theorem dX3_readyLocks_18 : decode cX3_readyLocks 18 = .ok (.aload_n 0, 1) := by decide +kernel
theorem dX3_readyLocks_19 : decode cX3_readyLocks 19 = .ok (.getfield 11, 3) := by decide +kernel
theorem dX3_readyLocks_22 : decode cX3_readyLocks 22 = .ok (.iload_n 3, 1) := by decide +kernel
theorem dX3_readyLocks_23 : decode cX3_readyLocks 23 = .ok (.aaload, 1) := by decide +kernel
theorem dX3_readyLocks_24 : decode cX3_readyLocks 24 = .ok (.iload_n 1, 1) := by decide +kernel
theorem dX3_readyLocks_25 : decode cX3_readyLocks 25 = .ok (.invokevirtual 107, 3) := by decide +kernel
theorem dX3_readyLocks_28 : decode cX3_readyLocks 28 = .ok (.ifCond .eq 9, 3) := by decide +kernel
theorem dX3_readyLocks_31 : decode cX3_readyLocks 31 = .ok (.iload_n 2, 1) := by decide +kernel
theorem dX3_readyLocks_32 : decode cX3_readyLocks 32 = .ok (.iconst 1, 1) := by decide +kernel
theorem dX3_readyLocks_33 : decode cX3_readyLocks 33 = .ok (.iload_n 3, 1) := by decide +kernel
theorem dX3_readyLocks_34 : decode cX3_readyLocks 34 = .ok (.ishl, 1) := by decide +kernel
theorem dX3_readyLocks_35 : decode cX3_readyLocks 35 = .ok (.ior, 1) := by decide +kernel
theorem dX3_readyLocks_36 : decode cX3_readyLocks 36 = .ok (.istore_n 2, 1) := by decide +kernel
theorem dX3_readyLocks_37 : decode cX3_readyLocks 37 = .ok (.iinc 3 1, 3) := by decide +kernel
theorem dX3_readyLocks_40 : decode cX3_readyLocks 40 = .ok (.goto (-30), 3) := by decide +kernel
theorem dX3_readyLocks_43 : decode cX3_readyLocks 43 = .ok (.iload_n 2, 1) := by decide +kernel
theorem dX3_readyLocks_44 : decode cX3_readyLocks 44 = .ok (.ireturn, 1) := by decide +kernel
set_option maxRecDepth 20000 in
theorem ggX3_locksThatNeed_X6_isIn : GoodIn wsX3_locksThatNeed wsX6_isIn := goodIn_r _ [6] (by decide +kernel) (by decide +kernel)
set_option maxRecDepth 20000 in
theorem gX3_locksThatNeed_X6_isIn_n111 : GoodIn wsX3_locksThatNeed (wsX6_isIn) := ggX3_locksThatNeed_X6_isIn
theorem dX3_locksThatNeed_0 : decode cX3_locksThatNeed 0 = .ok (.iconst 0, 1) := by decide +kernel
theorem dX3_locksThatNeed_1 : decode cX3_locksThatNeed 1 = .ok (.istore_n 2, 1) := by decide +kernel
theorem dX3_locksThatNeed_2 : decode cX3_locksThatNeed 2 = .ok (.iconst 0, 1) := by decide +kernel
theorem dX3_locksThatNeed_3 : decode cX3_locksThatNeed 3 = .ok (.istore_n 3, 1) := by decide +kernel
theorem dX3_locksThatNeed_4 : decode cX3_locksThatNeed 4 = .ok (.iload_n 3, 1) := by decide +kernel
theorem dX3_locksThatNeed_5 : decode cX3_locksThatNeed 5 = .ok (.aload_n 0, 1) := by decide +kernel
theorem dX3_locksThatNeed_6 : decode cX3_locksThatNeed 6 = .ok (.getfield 47, 3) := by decide +kernel
theorem dX3_locksThatNeed_9 : decode cX3_locksThatNeed 9 = .ok (.if_icmp .ge 31, 3) := by decide +kernel
theorem dX3_locksThatNeed_12 : decode cX3_locksThatNeed 12 = .ok (.aload_n 0, 1) := by decide +kernel
theorem dX3_locksThatNeed_13 : decode cX3_locksThatNeed 13 = .ok (.getfield 11, 3) := by decide +kernel
theorem dX3_locksThatNeed_16 : decode cX3_locksThatNeed 16 = .ok (.iload_n 3, 1) := by decide +kernel
theorem dX3_locksThatNeed_17 : decode cX3_locksThatNeed 17 = .ok (.aaload, 1) := by decide +kernel
theorem dX3_locksThatNeed_18 : decode cX3_locksThatNeed 18 = .ok (.getfield 78, 3) := by decide +kernel
theorem dX3_locksThatNeed_21 : decode cX3_locksThatNeed 21 = .ok (.iload_n 1, 1) := by decide +kernel
theorem dX3_locksThatNeed_22 : decode cX3_locksThatNeed 22 = .ok (.invokestatic 111, 3) := by decide +kernel
theorem dX3_locksThatNeed_25 : decode cX3_locksThatNeed 25 = .ok (.ifCond .eq 9, 3) := by decide +kernel
theorem dX3_locksThatNeed_34 : decode cX3_locksThatNeed 34 = .ok (.iinc 3 1, 3) := by decide +kernel
theorem dX3_locksThatNeed_37 : decode cX3_locksThatNeed 37 = .ok (.goto (-33), 3) := by decide +kernel
theorem dX3_locksThatNeed_40 : decode cX3_locksThatNeed 40 = .ok (.iload_n 2, 1) := by decide +kernel
theorem dX3_locksThatNeed_41 : decode cX3_locksThatNeed 41 = .ok (.ireturn, 1) := by decide +kernel
theorem dX3_thingsIn_0 : decode cX3_thingsIn 0 = .ok (.iconst 0, 1) := by decide +kernel
theorem dX3_thingsIn_1 : decode cX3_thingsIn 1 = .ok (.istore_n 2, 1) := by decide +kernel
theorem dX3_thingsIn_2 : decode cX3_thingsIn 2 = .ok (.iconst 0, 1) := by decide +kernel
theorem dX3_thingsIn_3 : decode cX3_thingsIn 3 = .ok (.istore_n 3, 1) := by decide +kernel
theorem dX3_thingsIn_4 : decode cX3_thingsIn 4 = .ok (.iload_n 3, 1) := by decide +kernel
theorem dX3_thingsIn_5 : decode cX3_thingsIn 5 = .ok (.aload_n 0, 1) := by decide +kernel
theorem dX3_thingsIn_6 : decode cX3_thingsIn 6 = .ok (.getfield 54, 3) := by decide +kernel
theorem dX3_thingsIn_9 : decode cX3_thingsIn 9 = .ok (.if_icmp .ge 28, 3) := by decide +kernel
theorem dX3_thingsIn_12 : decode cX3_thingsIn 12 = .ok (.aload_n 0, 1) := by decide +kernel
theorem dX3_thingsIn_13 : decode cX3_thingsIn 13 = .ok (.getfield 19, 3) := by decide +kernel
theorem dX3_thingsIn_16 : decode cX3_thingsIn 16 = .ok (.iload_n 3, 1) := by decide +kernel
theorem dX3_thingsIn_17 : decode cX3_thingsIn 17 = .ok (.aaload, 1) := by decide +kernel
theorem dX3_thingsIn_18 : decode cX3_thingsIn 18 = .ok (.getfield 115, 3) := by decide +kernel
theorem dX3_thingsIn_21 : decode cX3_thingsIn 21 = .ok (.iload_n 1, 1) := by decide +kernel
theorem dX3_thingsIn_22 : decode cX3_thingsIn 22 = .ok (.if_icmp .ne 9, 3) := by decide +kernel
theorem dX3_thingsIn_31 : decode cX3_thingsIn 31 = .ok (.iinc 3 1, 3) := by decide +kernel
theorem dX3_thingsIn_34 : decode cX3_thingsIn 34 = .ok (.goto (-30), 3) := by decide +kernel
theorem dX3_thingsIn_37 : decode cX3_thingsIn 37 = .ok (.iload_n 2, 1) := by decide +kernel
theorem dX3_thingsIn_38 : decode cX3_thingsIn 38 = .ok (.ireturn, 1) := by decide +kernel
set_option maxRecDepth 20000 in
theorem ggX3_thingsAtHand_X3_thingsIn : GoodIn wsX3_thingsAtHand wsX3_thingsIn := goodIn_r _ [11, 1, 2, 12, 23, 24, 25, 26, 27, 28, 29, 30, 31, 32, 33, 34, 45, 46, 47, 48, 49] (by decide +kernel) (by decide +kernel)
set_option maxRecDepth 20000 in
theorem gX3_thingsAtHand_X3_thingsIn : GoodIn wsX3_thingsAtHand (wsV RX3 103 RX3 yX3_thingsIn wsX3_thingsIn) := goodIn_app (goodIn_of _ (by decide +kernel)) ggX3_thingsAtHand_X3_thingsIn
set_option maxRecDepth 20000 in
theorem ggX3_thingsAtHand_X5_canBeReached : GoodIn wsX3_thingsAtHand wsX5_canBeReached := goodIn_r _ [17, 18, 19, 45, 46, 47, 48, 49] (by decide +kernel) (by decide +kernel)
set_option maxRecDepth 20000 in
theorem gX3_thingsAtHand_X5_canBeReached : GoodIn wsX3_thingsAtHand (wsV RX3 122 RX5 yX5_canBeReached wsX5_canBeReached) := goodIn_app (goodIn_of _ (by decide +kernel)) ggX3_thingsAtHand_X5_canBeReached
set_option maxRecDepth 20000 in
theorem ggX3_thingsAtHand_X6_isIn : GoodIn wsX3_thingsAtHand wsX6_isIn := goodIn_r _ [22] (by decide +kernel) (by decide +kernel)
set_option maxRecDepth 20000 in
theorem gX3_thingsAtHand_X6_isIn_n111 : GoodIn wsX3_thingsAtHand (wsX6_isIn) := ggX3_thingsAtHand_X6_isIn
theorem dX3_thingsAtHand_0 : decode cX3_thingsAtHand 0 = .ok (.aload_n 0, 1) := by decide +kernel
theorem dX3_thingsAtHand_1 : decode cX3_thingsAtHand 1 = .ok (.iconst 1, 1) := by decide +kernel
theorem dX3_thingsAtHand_2 : decode cX3_thingsAtHand 2 = .ok (.invokevirtual 103, 3) := by decide +kernel
theorem dX3_thingsAtHand_5 : decode cX3_thingsAtHand 5 = .ok (.istore_n 2, 1) := by decide +kernel
theorem dX3_thingsAtHand_6 : decode cX3_thingsAtHand 6 = .ok (.iconst 0, 1) := by decide +kernel
theorem dX3_thingsAtHand_7 : decode cX3_thingsAtHand 7 = .ok (.istore_n 3, 1) := by decide +kernel
theorem dX3_thingsAtHand_8 : decode cX3_thingsAtHand 8 = .ok (.iload_n 3, 1) := by decide +kernel
theorem dX3_thingsAtHand_9 : decode cX3_thingsAtHand 9 = .ok (.aload_n 0, 1) := by decide +kernel
theorem dX3_thingsAtHand_10 : decode cX3_thingsAtHand 10 = .ok (.getfield 54, 3) := by decide +kernel
theorem dX3_thingsAtHand_13 : decode cX3_thingsAtHand 13 = .ok (.if_icmp .ge 28, 3) := by decide +kernel
theorem dX3_thingsAtHand_16 : decode cX3_thingsAtHand 16 = .ok (.aload_n 0, 1) := by decide +kernel
theorem dX3_thingsAtHand_17 : decode cX3_thingsAtHand 17 = .ok (.getfield 19, 3) := by decide +kernel
theorem dX3_thingsAtHand_20 : decode cX3_thingsAtHand 20 = .ok (.iload_n 3, 1) := by decide +kernel
theorem dX3_thingsAtHand_21 : decode cX3_thingsAtHand 21 = .ok (.aaload, 1) := by decide +kernel
theorem dX3_thingsAtHand_22 : decode cX3_thingsAtHand 22 = .ok (.iload_n 1, 1) := by decide +kernel
theorem dX3_thingsAtHand_23 : decode cX3_thingsAtHand 23 = .ok (.invokevirtual 122, 3) := by decide +kernel
theorem dX3_thingsAtHand_26 : decode cX3_thingsAtHand 26 = .ok (.ifCond .eq 9, 3) := by decide +kernel
theorem dX3_thingsAtHand_29 : decode cX3_thingsAtHand 29 = .ok (.iload_n 2, 1) := by decide +kernel
theorem dX3_thingsAtHand_30 : decode cX3_thingsAtHand 30 = .ok (.iconst 1, 1) := by decide +kernel
theorem dX3_thingsAtHand_31 : decode cX3_thingsAtHand 31 = .ok (.iload_n 3, 1) := by decide +kernel
theorem dX3_thingsAtHand_32 : decode cX3_thingsAtHand 32 = .ok (.ishl, 1) := by decide +kernel
theorem dX3_thingsAtHand_33 : decode cX3_thingsAtHand 33 = .ok (.ior, 1) := by decide +kernel
theorem dX3_thingsAtHand_34 : decode cX3_thingsAtHand 34 = .ok (.istore_n 2, 1) := by decide +kernel
theorem dX3_thingsAtHand_35 : decode cX3_thingsAtHand 35 = .ok (.iinc 3 1, 3) := by decide +kernel
theorem dX3_thingsAtHand_38 : decode cX3_thingsAtHand 38 = .ok (.goto (-30), 3) := by decide +kernel
theorem dX3_thingsAtHand_41 : decode cX3_thingsAtHand 41 = .ok (.iconst 0, 1) := by decide +kernel
theorem dX3_thingsAtHand_42 : decode cX3_thingsAtHand 42 = .ok (.istore_n 3, 1) := by decide +kernel
theorem dX3_thingsAtHand_43 : decode cX3_thingsAtHand 43 = .ok (.iload_n 3, 1) := by decide +kernel
theorem dX3_thingsAtHand_44 : decode cX3_thingsAtHand 44 = .ok (.aload_n 0, 1) := by decide +kernel
theorem dX3_thingsAtHand_45 : decode cX3_thingsAtHand 45 = .ok (.getfield 47, 3) := by decide +kernel
theorem dX3_thingsAtHand_48 : decode cX3_thingsAtHand 48 = .ok (.if_icmp .ge 43, 3) := by decide +kernel
theorem dX3_thingsAtHand_51 : decode cX3_thingsAtHand 51 = .ok (.iload_n 1, 1) := by decide +kernel
theorem dX3_thingsAtHand_52 : decode cX3_thingsAtHand 52 = .ok (.iload_n 3, 1) := by decide +kernel
theorem dX3_thingsAtHand_53 : decode cX3_thingsAtHand 53 = .ok (.invokestatic 111, 3) := by decide +kernel
theorem dX3_thingsAtHand_56 : decode cX3_thingsAtHand 56 = .ok (.ifCond .eq 29, 3) := by decide +kernel
theorem dX3_thingsAtHand_59 : decode cX3_thingsAtHand 59 = .ok (.aload_n 0, 1) := by decide +kernel
theorem dX3_thingsAtHand_60 : decode cX3_thingsAtHand 60 = .ok (.getfield 11, 3) := by decide +kernel
theorem dX3_thingsAtHand_63 : decode cX3_thingsAtHand 63 = .ok (.iload_n 3, 1) := by decide +kernel
theorem dX3_thingsAtHand_64 : decode cX3_thingsAtHand 64 = .ok (.aaload, 1) := by decide +kernel
theorem dX3_thingsAtHand_65 : decode cX3_thingsAtHand 65 = .ok (.getfield 100, 3) := by decide +kernel
theorem dX3_thingsAtHand_68 : decode cX3_thingsAtHand 68 = .ok (.ifCond .ne 17, 3) := by decide +kernel
theorem dX3_thingsAtHand_71 : decode cX3_thingsAtHand 71 = .ok (.iload_n 2, 1) := by decide +kernel
theorem dX3_thingsAtHand_72 : decode cX3_thingsAtHand 72 = .ok (.aload_n 0, 1) := by decide +kernel
theorem dX3_thingsAtHand_73 : decode cX3_thingsAtHand 73 = .ok (.getfield 11, 3) := by decide +kernel
theorem dX3_thingsAtHand_76 : decode cX3_thingsAtHand 76 = .ok (.iload_n 3, 1) := by decide +kernel
theorem dX3_thingsAtHand_77 : decode cX3_thingsAtHand 77 = .ok (.aaload, 1) := by decide +kernel
theorem dX3_thingsAtHand_78 : decode cX3_thingsAtHand 78 = .ok (.getfield 81, 3) := by decide +kernel
theorem dX3_thingsAtHand_81 : decode cX3_thingsAtHand 81 = .ok (.iconst (-1), 1) := by decide +kernel
theorem dX3_thingsAtHand_82 : decode cX3_thingsAtHand 82 = .ok (.ixor, 1) := by decide +kernel
theorem dX3_thingsAtHand_83 : decode cX3_thingsAtHand 83 = .ok (.iand, 1) := by decide +kernel
theorem dX3_thingsAtHand_84 : decode cX3_thingsAtHand 84 = .ok (.istore_n 2, 1) := by decide +kernel
theorem dX3_thingsAtHand_85 : decode cX3_thingsAtHand 85 = .ok (.iinc 3 1, 3) := by decide +kernel
theorem dX3_thingsAtHand_88 : decode cX3_thingsAtHand 88 = .ok (.goto (-45), 3) := by decide +kernel
theorem dX3_thingsAtHand_91 : decode cX3_thingsAtHand 91 = .ok (.iload_n 2, 1) := by decide +kernel
theorem dX3_thingsAtHand_92 : decode cX3_thingsAtHand 92 = .ok (.ireturn, 1) := by decide +kernel
set_option maxRecDepth 20000 in
theorem ggX3_tellLock_X3_hasLock : GoodIn wsX3_tellLock wsX3_hasLock := goodIn_r _ [15, 16, 35, 36, 37, 38, 39, 40, 41, 42, 43, 44, 45, 46] (by decide +kernel) (by decide +kernel)
set_option maxRecDepth 20000 in
theorem gX3_tellLock_X3_hasLock : GoodIn wsX3_tellLock (wsV RX3 166 RX3 yX3_hasLock wsX3_hasLock) := goodIn_app (goodIn_of _ (by decide +kernel)) ggX3_tellLock_X3_hasLock
set_option maxRecDepth 20000 in
theorem ggX3_tellLock_X6_oneIf : GoodIn wsX3_tellLock wsX6_oneIf := goodIn_r _ [19] (by decide +kernel) (by decide +kernel)
set_option maxRecDepth 20000 in
theorem gX3_tellLock_X6_oneIf_n147 : GoodIn wsX3_tellLock (wsX6_oneIf) := ggX3_tellLock_X6_oneIf
set_option maxRecDepth 20000 in
theorem ggX3_tellLock_X3_thingsIn : GoodIn wsX3_tellLock wsX3_thingsIn := goodIn_r _ [23, 24, 25, 26, 35, 36, 37, 38, 39, 40, 41, 42, 43, 44, 45, 46, 57, 58, 59, 60, 61] (by decide +kernel) (by decide +kernel)
set_option maxRecDepth 20000 in
theorem gX3_tellLock_X3_thingsIn : GoodIn wsX3_tellLock (wsV RX3 103 RX3 yX3_thingsIn wsX3_thingsIn) := goodIn_app (goodIn_of _ (by decide +kernel)) ggX3_tellLock_X3_thingsIn
set_option maxRecDepth 20000 in
theorem ggX3_tellLock_X1_isReady : GoodIn wsX3_tellLock wsX1_isReady := goodIn_r _ [31, 32, 33, 34, 47, 48, 49, 50, 51, 52, 53, 54, 55, 56] (by decide +kernel) (by decide +kernel)
set_option maxRecDepth 20000 in
theorem gX3_tellLock_X1_isReady : GoodIn wsX3_tellLock (wsV RX3 107 RX1 yX1_isReady wsX1_isReady) := goodIn_app (goodIn_of _ (by decide +kernel)) ggX3_tellLock_X1_isReady
theorem dX3_tellLock_0 : decode cX3_tellLock 0 = .ok (.aload_n 0, 1) := by decide +kernel
theorem dX3_tellLock_1 : decode cX3_tellLock 1 = .ok (.iload_n 1, 1) := by decide +kernel
theorem dX3_tellLock_2 : decode cX3_tellLock 2 = .ok (.invokevirtual 166, 3) := by decide +kernel
theorem dX3_tellLock_5 : decode cX3_tellLock 5 = .ok (.ifCond .ne 5, 3) := by decide +kernel
theorem dX3_tellLock_10 : decode cX3_tellLock 10 = .ok (.aload_n 0, 1) := by decide +kernel
theorem dX3_tellLock_11 : decode cX3_tellLock 11 = .ok (.getfield 11, 3) := by decide +kernel
theorem dX3_tellLock_14 : decode cX3_tellLock 14 = .ok (.iload_n 1, 1) := by decide +kernel
theorem dX3_tellLock_15 : decode cX3_tellLock 15 = .ok (.aaload, 1) := by decide +kernel
theorem dX3_tellLock_16 : decode cX3_tellLock 16 = .ok (.astore_n 3, 1) := by decide +kernel
theorem dX3_tellLock_17 : decode cX3_tellLock 17 = .ok (.iload_n 2, 1) := by decide +kernel
theorem dX3_tellLock_18 : decode cX3_tellLock 18 = .ok (.tableswitch 104 0 8 #[50, 55, 60, 65, 73, 81, 86, 91, 96], 50) := by decide +kernel
theorem dX3_tellLock_68 : decode cX3_tellLock 68 = .ok (.aload_n 3, 1) := by decide +kernel
theorem dX3_tellLock_69 : decode cX3_tellLock 69 = .ok (.getfield 78, 3) := by decide +kernel
theorem dX3_tellLock_72 : decode cX3_tellLock 72 = .ok (.ireturn, 1) := by decide +kernel
theorem dX3_tellLock_73 : decode cX3_tellLock 73 = .ok (.aload_n 3, 1) := by decide +kernel
theorem dX3_tellLock_74 : decode cX3_tellLock 74 = .ok (.getfield 81, 3) := by decide +kernel
theorem dX3_tellLock_77 : decode cX3_tellLock 77 = .ok (.ireturn, 1) := by decide +kernel
theorem dX3_tellLock_78 : decode cX3_tellLock 78 = .ok (.aload_n 3, 1) := by decide +kernel
theorem dX3_tellLock_79 : decode cX3_tellLock 79 = .ok (.getfield 84, 3) := by decide +kernel
theorem dX3_tellLock_82 : decode cX3_tellLock 82 = .ok (.ireturn, 1) := by decide +kernel
theorem dX3_tellLock_83 : decode cX3_tellLock 83 = .ok (.aload_n 3, 1) := by decide +kernel
theorem dX3_tellLock_84 : decode cX3_tellLock 84 = .ok (.getfield 87, 3) := by decide +kernel
theorem dX3_tellLock_87 : decode cX3_tellLock 87 = .ok (.invokestatic 147, 3) := by decide +kernel
theorem dX3_tellLock_90 : decode cX3_tellLock 90 = .ok (.ireturn, 1) := by decide +kernel
theorem dX3_tellLock_91 : decode cX3_tellLock 91 = .ok (.aload_n 3, 1) := by decide +kernel
theorem dX3_tellLock_92 : decode cX3_tellLock 92 = .ok (.getfield 100, 3) := by decide +kernel
theorem dX3_tellLock_95 : decode cX3_tellLock 95 = .ok (.invokestatic 147, 3) := by decide +kernel
theorem dX3_tellLock_98 : decode cX3_tellLock 98 = .ok (.ireturn, 1) := by decide +kernel
theorem dX3_tellLock_99 : decode cX3_tellLock 99 = .ok (.aload_n 3, 1) := by decide +kernel
theorem dX3_tellLock_100 : decode cX3_tellLock 100 = .ok (.getfield 195, 3) := by decide +kernel
theorem dX3_tellLock_103 : decode cX3_tellLock 103 = .ok (.ireturn, 1) := by decide +kernel
theorem dX3_tellLock_104 : decode cX3_tellLock 104 = .ok (.aload_n 3, 1) := by decide +kernel
theorem dX3_tellLock_105 : decode cX3_tellLock 105 = .ok (.getfield 210, 3) := by decide +kernel
theorem dX3_tellLock_108 : decode cX3_tellLock 108 = .ok (.ireturn, 1) := by decide +kernel
theorem dX3_tellLock_109 : decode cX3_tellLock 109 = .ok (.aload_n 3, 1) := by decide +kernel
theorem dX3_tellLock_110 : decode cX3_tellLock 110 = .ok (.getfield 213, 3) := by decide +kernel
theorem dX3_tellLock_113 : decode cX3_tellLock 113 = .ok (.ireturn, 1) := by decide +kernel
theorem dX3_tellLock_114 : decode cX3_tellLock 114 = .ok (.aload_n 3, 1) := by decide +kernel
theorem dX3_tellLock_115 : decode cX3_tellLock 115 = .ok (.getfield 216, 3) := by decide +kernel
theorem dX3_tellLock_118 : decode cX3_tellLock 118 = .ok (.invokestatic 147, 3) := by decide +kernel
theorem dX3_tellLock_121 : decode cX3_tellLock 121 = .ok (.ireturn, 1) := by decide +kernel
theorem dX3_tellLock_122 : decode cX3_tellLock 122 = .ok (.aload_n 3, 1) := by decide +kernel
theorem dX3_tellLock_123 : decode cX3_tellLock 123 = .ok (.aload_n 0, 1) := by decide +kernel
theorem dX3_tellLock_124 : decode cX3_tellLock 124 = .ok (.iconst 1, 1) := by decide +kernel
theorem dX3_tellLock_125 : decode cX3_tellLock 125 = .ok (.invokevirtual 103, 3) := by decide +kernel
theorem dX3_tellLock_128 : decode cX3_tellLock 128 = .ok (.invokevirtual 107, 3) := by decide +kernel
theorem dX3_tellLock_131 : decode cX3_tellLock 131 = .ok (.invokestatic 147, 3) := by decide +kernel
theorem dX3_tellLock_134 : decode cX3_tellLock 134 = .ok (.ireturn, 1) := by decide +kernel
set_option maxRecDepth 20000 in
theorem ggX3_tellThing_X3_hasThing : GoodIn wsX3_tellThing wsX3_hasThing := goodIn_r _ [10, 11, 36, 37, 38, 39, 40, 41, 42, 43, 44, 45, 46, 47] (by decide +kernel) (by decide +kernel)
set_option maxRecDepth 20000 in
theorem gX3_tellThing_X3_hasThing : GoodIn wsX3_tellThing (wsV RX3 182 RX3 yX3_hasThing wsX3_hasThing) := goodIn_app (goodIn_of _ (by decide +kernel)) ggX3_tellThing_X3_hasThing
set_option maxRecDepth 20000 in
theorem ggX3_tellThing_X3_openLocks : GoodIn wsX3_tellThing wsX3_openLocks := goodIn_r _ [15, 16, 17, 18, 36, 37, 38, 39, 40, 41, 42, 43, 44, 45, 46, 47, 53, 54, 55, 56, 57, 58, 59, 60, 61, 62] (by decide +kernel) (by decide +kernel)
set_option maxRecDepth 20000 in
theorem gX3_tellThing_X3_openLocks : GoodIn wsX3_tellThing (wsV RX3 118 RX3 yX3_openLocks wsX3_openLocks) := goodIn_app (goodIn_of _ (by decide +kernel)) ggX3_tellThing_X3_openLocks
set_option maxRecDepth 20000 in
theorem ggX3_tellThing_X5_canBeReached : GoodIn wsX3_tellThing wsX5_canBeReached := goodIn_r _ [23, 24, 25, 48, 49, 50, 51, 52] (by decide +kernel) (by decide +kernel)
set_option maxRecDepth 20000 in
theorem gX3_tellThing_X5_canBeReached : GoodIn wsX3_tellThing (wsV RX3 122 RX5 yX5_canBeReached wsX5_canBeReached) := goodIn_app (goodIn_of _ (by decide +kernel)) ggX3_tellThing_X5_canBeReached
set_option maxRecDepth 20000 in
theorem ggX3_tellThing_X6_oneIf : GoodIn wsX3_tellThing wsX6_oneIf := goodIn_r _ [28] (by decide +kernel) (by decide +kernel)
set_option maxRecDepth 20000 in
theorem gX3_tellThing_X6_oneIf_n147 : GoodIn wsX3_tellThing (wsX6_oneIf) := ggX3_tellThing_X6_oneIf
set_option maxRecDepth 20000 in
theorem ggX3_tellThing_X3_locksThatNeed : GoodIn wsX3_tellThing wsX3_locksThatNeed := goodIn_r _ [32, 16, 17, 33, 34, 27, 35, 36, 37, 38, 39, 40, 41, 42, 43, 44, 45, 46, 47, 53, 54, 55, 56, 57, 58, 59, 60, 61, 62] (by decide +kernel) (by decide +kernel)
set_option maxRecDepth 20000 in
theorem gX3_tellThing_X3_locksThatNeed : GoodIn wsX3_tellThing (wsV RX3 219 RX3 yX3_locksThatNeed wsX3_locksThatNeed) := goodIn_app (goodIn_of _ (by decide +kernel)) ggX3_tellThing_X3_locksThatNeed
theorem dX3_tellThing_0 : decode cX3_tellThing 0 = .ok (.aload_n 0, 1) := by decide +kernel
theorem dX3_tellThing_1 : decode cX3_tellThing 1 = .ok (.iload_n 1, 1) := by decide +kernel
theorem dX3_tellThing_2 : decode cX3_tellThing 2 = .ok (.invokevirtual 182, 3) := by decide +kernel
theorem dX3_tellThing_5 : decode cX3_tellThing 5 = .ok (.ifCond .ne 5, 3) := by decide +kernel
theorem dX3_tellThing_10 : decode cX3_tellThing 10 = .ok (.aload_n 0, 1) := by decide +kernel
theorem dX3_tellThing_11 : decode cX3_tellThing 11 = .ok (.getfield 19, 3) := by decide +kernel
theorem dX3_tellThing_14 : decode cX3_tellThing 14 = .ok (.iload_n 1, 1) := by decide +kernel
theorem dX3_tellThing_15 : decode cX3_tellThing 15 = .ok (.aaload, 1) := by decide +kernel
theorem dX3_tellThing_16 : decode cX3_tellThing 16 = .ok (.astore_n 3, 1) := by decide +kernel
theorem dX3_tellThing_17 : decode cX3_tellThing 17 = .ok (.iload_n 2, 1) := by decide +kernel
theorem dX3_tellThing_18 : decode cX3_tellThing 18 = .ok (.tableswitch 66 0 4 #[34, 39, 44, 49, 54], 34) := by decide +kernel
theorem dX3_tellThing_52 : decode cX3_tellThing 52 = .ok (.aload_n 3, 1) := by decide +kernel
theorem dX3_tellThing_53 : decode cX3_tellThing 53 = .ok (.getfield 90, 3) := by decide +kernel
theorem dX3_tellThing_56 : decode cX3_tellThing 56 = .ok (.ireturn, 1) := by decide +kernel
theorem dX3_tellThing_57 : decode cX3_tellThing 57 = .ok (.aload_n 3, 1) := by decide +kernel
theorem dX3_tellThing_58 : decode cX3_tellThing 58 = .ok (.getfield 93, 3) := by decide +kernel
theorem dX3_tellThing_61 : decode cX3_tellThing 61 = .ok (.ireturn, 1) := by decide +kernel
theorem dX3_tellThing_62 : decode cX3_tellThing 62 = .ok (.aload_n 3, 1) := by decide +kernel
theorem dX3_tellThing_63 : decode cX3_tellThing 63 = .ok (.getfield 207, 3) := by decide +kernel
theorem dX3_tellThing_66 : decode cX3_tellThing 66 = .ok (.ireturn, 1) := by decide +kernel
theorem dX3_tellThing_67 : decode cX3_tellThing 67 = .ok (.aload_n 3, 1) := by decide +kernel
theorem dX3_tellThing_68 : decode cX3_tellThing 68 = .ok (.getfield 115, 3) := by decide +kernel
theorem dX3_tellThing_71 : decode cX3_tellThing 71 = .ok (.ireturn, 1) := by decide +kernel
theorem dX3_tellThing_72 : decode cX3_tellThing 72 = .ok (.aload_n 3, 1) := by decide +kernel
theorem dX3_tellThing_73 : decode cX3_tellThing 73 = .ok (.aload_n 0, 1) := by decide +kernel
theorem dX3_tellThing_74 : decode cX3_tellThing 74 = .ok (.invokevirtual 118, 3) := by decide +kernel
theorem dX3_tellThing_77 : decode cX3_tellThing 77 = .ok (.invokevirtual 122, 3) := by decide +kernel
theorem dX3_tellThing_80 : decode cX3_tellThing 80 = .ok (.invokestatic 147, 3) := by decide +kernel
theorem dX3_tellThing_83 : decode cX3_tellThing 83 = .ok (.ireturn, 1) := by decide +kernel
theorem dX3_tellThing_84 : decode cX3_tellThing 84 = .ok (.aload_n 0, 1) := by decide +kernel
theorem dX3_tellThing_85 : decode cX3_tellThing 85 = .ok (.iload_n 1, 1) := by decide +kernel
theorem dX3_tellThing_86 : decode cX3_tellThing 86 = .ok (.invokevirtual 219, 3) := by decide +kernel
theorem dX3_tellThing_89 : decode cX3_tellThing 89 = .ok (.ireturn, 1) := by decide +kernel
set_option maxRecDepth 20000 in
theorem ggX3_tell_X6_oneIf : GoodIn wsX3_tell wsX6_oneIf := goodIn_r _ [18] (by decide +kernel) (by decide +kernel)
set_option maxRecDepth 20000 in
theorem gX3_tell_X6_oneIf_n147 : GoodIn wsX3_tell (wsX6_oneIf) := ggX3_tell_X6_oneIf
set_option maxRecDepth 20000 in
theorem ggX3_tell_X3_openLocks : GoodIn wsX3_tell wsX3_openLocks := goodIn_r _ [23, 2, 24, 25, 44, 45, 46, 47, 48, 49, 50, 51, 52, 53, 54, 55, 63, 64, 65, 66, 67, 68, 69, 70, 71, 72] (by decide +kernel) (by decide +kernel)
set_option maxRecDepth 20000 in
theorem gX3_tell_X3_openLocks : GoodIn wsX3_tell (wsV RX3 118 RX3 yX3_openLocks wsX3_openLocks) := goodIn_app (goodIn_of _ (by decide +kernel)) ggX3_tell_X3_openLocks
set_option maxRecDepth 20000 in
theorem ggX3_tell_X3_readyLocks : GoodIn wsX3_tell wsX3_readyLocks := goodIn_r _ [29, 2, 24, 30, 31, 32, 22, 33, 3, 34, 35, 36, 37, 38, 39, 40, 41, 42, 43, 44, 45, 46, 47, 48, 49, 50, 51, 52, 53, 54, 55, 73, 74, 75, 76, 77, 63, 64, 65, 66, 67, 68, 69, 70, 71, 72] (by decide +kernel) (by decide +kernel)
set_option maxRecDepth 20000 in
theorem gX3_tell_X3_readyLocks : GoodIn wsX3_tell (wsV RX3 235 RX3 yX3_readyLocks wsX3_readyLocks) := goodIn_app (goodIn_of _ (by decide +kernel)) ggX3_tell_X3_readyLocks
set_option maxRecDepth 20000 in
theorem ggX3_tell_X3_thingsIn : GoodIn wsX3_tell wsX3_thingsIn := goodIn_r _ [33, 3, 34, 35, 44, 45, 46, 47, 48, 49, 50, 51, 52, 53, 54, 55, 73, 74, 75, 76, 77] (by decide +kernel) (by decide +kernel)
set_option maxRecDepth 20000 in
theorem gX3_tell_X3_thingsIn : GoodIn wsX3_tell (wsV RX3 103 RX3 yX3_thingsIn wsX3_thingsIn) := goodIn_app (goodIn_of _ (by decide +kernel)) ggX3_tell_X3_thingsIn
theorem dX3_tell_0 : decode cX3_tell 0 = .ok (.iload_n 1, 1) := by decide +kernel
theorem dX3_tell_1 : decode cX3_tell 1 = .ok (.tableswitch 204 0 17 #[87, 92, 97, 102, 107, 118, 126, 134, 142, 150, 155, 163, 168, 173, 178, 184, 190, 196], 87) := by decide +kernel
theorem dX3_tell_88 : decode cX3_tell 88 = .ok (.aload_n 0, 1) := by decide +kernel
theorem dX3_tell_89 : decode cX3_tell 89 = .ok (.getfield 69, 3) := by decide +kernel
theorem dX3_tell_92 : decode cX3_tell 92 = .ok (.ireturn, 1) := by decide +kernel
theorem dX3_tell_93 : decode cX3_tell 93 = .ok (.aload_n 0, 1) := by decide +kernel
theorem dX3_tell_94 : decode cX3_tell 94 = .ok (.getfield 47, 3) := by decide +kernel
theorem dX3_tell_97 : decode cX3_tell 97 = .ok (.ireturn, 1) := by decide +kernel
theorem dX3_tell_98 : decode cX3_tell 98 = .ok (.aload_n 0, 1) := by decide +kernel
theorem dX3_tell_99 : decode cX3_tell 99 = .ok (.getfield 54, 3) := by decide +kernel
theorem dX3_tell_102 : decode cX3_tell 102 = .ok (.ireturn, 1) := by decide +kernel
theorem dX3_tell_103 : decode cX3_tell 103 = .ok (.aload_n 0, 1) := by decide +kernel
theorem dX3_tell_104 : decode cX3_tell 104 = .ok (.getfield 60, 3) := by decide +kernel
theorem dX3_tell_107 : decode cX3_tell 107 = .ok (.ireturn, 1) := by decide +kernel
theorem dX3_tell_108 : decode cX3_tell 108 = .ok (.aload_n 0, 1) := by decide +kernel
theorem dX3_tell_109 : decode cX3_tell 109 = .ok (.getfield 32, 3) := by decide +kernel
theorem dX3_tell_112 : decode cX3_tell 112 = .ok (.getfield 134, 3) := by decide +kernel
theorem dX3_tell_115 : decode cX3_tell 115 = .ok (.invokestatic 147, 3) := by decide +kernel
theorem dX3_tell_118 : decode cX3_tell 118 = .ok (.ireturn, 1) := by decide +kernel
theorem dX3_tell_119 : decode cX3_tell 119 = .ok (.aload_n 0, 1) := by decide +kernel
theorem dX3_tell_120 : decode cX3_tell 120 = .ok (.getfield 32, 3) := by decide +kernel
theorem dX3_tell_123 : decode cX3_tell 123 = .ok (.getfield 137, 3) := by decide +kernel
theorem dX3_tell_126 : decode cX3_tell 126 = .ok (.ireturn, 1) := by decide +kernel
theorem dX3_tell_127 : decode cX3_tell 127 = .ok (.aload_n 0, 1) := by decide +kernel
theorem dX3_tell_128 : decode cX3_tell 128 = .ok (.getfield 32, 3) := by decide +kernel
theorem dX3_tell_131 : decode cX3_tell 131 = .ok (.getfield 225, 3) := by decide +kernel
theorem dX3_tell_134 : decode cX3_tell 134 = .ok (.ireturn, 1) := by decide +kernel
theorem dX3_tell_135 : decode cX3_tell 135 = .ok (.aload_n 0, 1) := by decide +kernel
theorem dX3_tell_136 : decode cX3_tell 136 = .ok (.getfield 32, 3) := by decide +kernel
theorem dX3_tell_139 : decode cX3_tell 139 = .ok (.getfield 228, 3) := by decide +kernel
theorem dX3_tell_142 : decode cX3_tell 142 = .ok (.ireturn, 1) := by decide +kernel
theorem dX3_tell_143 : decode cX3_tell 143 = .ok (.aload_n 0, 1) := by decide +kernel
theorem dX3_tell_144 : decode cX3_tell 144 = .ok (.getfield 32, 3) := by decide +kernel
theorem dX3_tell_147 : decode cX3_tell 147 = .ok (.getfield 231, 3) := by decide +kernel
theorem dX3_tell_150 : decode cX3_tell 150 = .ok (.ireturn, 1) := by decide +kernel
theorem dX3_tell_151 : decode cX3_tell 151 = .ok (.aload_n 0, 1) := by decide +kernel
theorem dX3_tell_152 : decode cX3_tell 152 = .ok (.getfield 72, 3) := by decide +kernel
theorem dX3_tell_155 : decode cX3_tell 155 = .ok (.ireturn, 1) := by decide +kernel
theorem dX3_tell_156 : decode cX3_tell 156 = .ok (.aload_n 0, 1) := by decide +kernel
theorem dX3_tell_157 : decode cX3_tell 157 = .ok (.getfield 32, 3) := by decide +kernel
theorem dX3_tell_160 : decode cX3_tell 160 = .ok (.getfield 234, 3) := by decide +kernel
theorem dX3_tell_163 : decode cX3_tell 163 = .ok (.ireturn, 1) := by decide +kernel
theorem dX3_tell_164 : decode cX3_tell 164 = .ok (.aload_n 0, 1) := by decide +kernel
theorem dX3_tell_165 : decode cX3_tell 165 = .ok (.getfield 36, 3) := by decide +kernel
theorem dX3_tell_168 : decode cX3_tell 168 = .ok (.ireturn, 1) := by decide +kernel
theorem dX3_tell_169 : decode cX3_tell 169 = .ok (.aload_n 0, 1) := by decide +kernel
theorem dX3_tell_170 : decode cX3_tell 170 = .ok (.invokevirtual 118, 3) := by decide +kernel
theorem dX3_tell_173 : decode cX3_tell 173 = .ok (.ireturn, 1) := by decide +kernel
theorem dX3_tell_174 : decode cX3_tell 174 = .ok (.aload_n 0, 1) := by decide +kernel
theorem dX3_tell_175 : decode cX3_tell 175 = .ok (.invokevirtual 235, 3) := by decide +kernel
theorem dX3_tell_178 : decode cX3_tell 178 = .ok (.ireturn, 1) := by decide +kernel
theorem dX3_tell_179 : decode cX3_tell 179 = .ok (.aload_n 0, 1) := by decide +kernel
theorem dX3_tell_180 : decode cX3_tell 180 = .ok (.iconst 1, 1) := by decide +kernel
theorem dX3_tell_181 : decode cX3_tell 181 = .ok (.invokevirtual 103, 3) := by decide +kernel
theorem dX3_tell_184 : decode cX3_tell 184 = .ok (.ireturn, 1) := by decide +kernel
theorem dX3_tell_185 : decode cX3_tell 185 = .ok (.aload_n 0, 1) := by decide +kernel
theorem dX3_tell_186 : decode cX3_tell 186 = .ok (.iconst 2, 1) := by decide +kernel
theorem dX3_tell_187 : decode cX3_tell 187 = .ok (.invokevirtual 103, 3) := by decide +kernel
theorem dX3_tell_190 : decode cX3_tell 190 = .ok (.ireturn, 1) := by decide +kernel
theorem dX3_tell_191 : decode cX3_tell 191 = .ok (.aload_n 0, 1) := by decide +kernel
theorem dX3_tell_192 : decode cX3_tell 192 = .ok (.iconst 3, 1) := by decide +kernel
theorem dX3_tell_193 : decode cX3_tell 193 = .ok (.invokevirtual 103, 3) := by decide +kernel
theorem dX3_tell_196 : decode cX3_tell 196 = .ok (.ireturn, 1) := by decide +kernel
theorem dX3_tell_197 : decode cX3_tell 197 = .ok (.aload_n 0, 1) := by decide +kernel
theorem dX3_tell_198 : decode cX3_tell 198 = .ok (.getfield 40, 3) := by decide +kernel
theorem dX3_tell_201 : decode cX3_tell 201 = .ok (.invokestatic 147, 3) := by decide +kernel
theorem dX3_tell_204 : decode cX3_tell 204 = .ok (.ireturn, 1) := by decide +kernel
theorem dX3_tell_205 : decode cX3_tell 205 = .ok (.aload_n 0, 1) := by decide +kernel
theorem dX3_tell_206 : decode cX3_tell 206 = .ok (.getfield 75, 3) := by decide +kernel
theorem dX3_tell_209 : decode cX3_tell 209 = .ok (.ireturn, 1) := by decide +kernel
theorem dX4_init_0 : decode cX4_init 0 = .ok (.aload_n 0, 1) := by decide +kernel
theorem dX4_init_1 : decode cX4_init 1 = .ok (.invokespecial 3, 3) := by decide +kernel
theorem dX4_init_4 : decode cX4_init 4 = .ok (.aload_n 0, 1) := by decide +kernel
theorem dX4_init_5 : decode cX4_init 5 = .ok (.sipush 1024, 3) := by decide +kernel
theorem dX4_init_8 : decode cX4_init 8 = .ok (.newarray .boolean, 2) := by decide +kernel
theorem dX4_init_10 : decode cX4_init 10 = .ok (.putfield 9, 3) := by decide +kernel
theorem dX4_init_13 : decode cX4_init 13 = .ok (.aload_n 0, 1) := by decide +kernel
theorem dX4_init_14 : decode cX4_init 14 = .ok (.sipush 1024, 3) := by decide +kernel
theorem dX4_init_17 : decode cX4_init 17 = .ok (.newarray .int, 2) := by decide +kernel
theorem dX4_init_19 : decode cX4_init 19 = .ok (.putfield 15, 3) := by decide +kernel
theorem dX4_init_22 : decode cX4_init 22 = .ok (.aload_n 0, 1) := by decide +kernel
theorem dX4_init_23 : decode cX4_init 23 = .ok (.sipush 1024, 3) := by decide +kernel
theorem dX4_init_26 : decode cX4_init 26 = .ok (.newarray .int, 2) := by decide +kernel
theorem dX4_init_28 : decode cX4_init 28 = .ok (.putfield 19, 3) := by decide +kernel
theorem dX4_init_31 : decode cX4_init 31 = .ok (.return_, 1) := by decide +kernel
set_option maxRecDepth 20000 in
theorem ggX4_countReached_X4_explore : GoodIn wsX4_countReached wsX4_explore := goodIn_r _ [6, 1, 7, 8, 9, 10, 11, 5, 12, 13, 14, 15, 16, 17, 18, 19, 20, 21, 22, 23, 24, 25, 26, 27, 28, 29, 30, 31, 32, 33, 34, 35, 36, 37, 38, 39, 40, 41, 42, 43, 44, 45, 46, 47, 48, 49, 50, 51, 52, 53, 54, 55, 56, 57, 58, 59, 60, 61, 62, 63, 64, 65, 66, 67, 68, 69, 72, 73, 74, 75, 76, 77, 78, 79, 80, 81, 82, 83, 84, 85, 86, 87, 88, 89, 90, 91, 92, 93, 94, 95, 96, 97, 98, 99, 100, 101] (by decide +kernel) (by decide +kernel)
set_option maxRecDepth 20000 in
theorem gX4_countReached_X4_explore : GoodIn wsX4_countReached (wsV RX4 22 RX4 yX4_explore wsX4_explore) := goodIn_app (goodIn_of _ (by decide +kernel)) ggX4_countReached_X4_explore
set_option maxRecDepth 20000 in
theorem ggX4_countReached_X4_endOfStands : GoodIn wsX4_countReached wsX4_endOfStands := goodIn_r _ [12, 13, 14, 15, 16, 17, 75, 76, 77, 78, 79, 80, 81, 82, 83, 84, 85, 86] (by decide +kernel) (by decide +kernel)
set_option maxRecDepth 20000 in
theorem gX4_countReached_X4_endOfStands : GoodIn wsX4_countReached (wsV RX4 26 RX4 yX4_endOfStands wsX4_endOfStands) := goodIn_app (goodIn_of _ (by decide +kernel)) ggX4_countReached_X4_endOfStands
set_option maxRecDepth 20000 in
theorem ggX4_countReached_X6_oneIf : GoodIn wsX4_countReached wsX6_oneIf := goodIn_r _ [71] (by decide +kernel) (by decide +kernel)
set_option maxRecDepth 20000 in
theorem gX4_countReached_X6_oneIf_n30 : GoodIn wsX4_countReached (wsX6_oneIf) := ggX4_countReached_X6_oneIf
theorem dX4_countReached_0 : decode cX4_countReached 0 = .ok (.aload_n 0, 1) := by decide +kernel
theorem dX4_countReached_1 : decode cX4_countReached 1 = .ok (.aload_n 1, 1) := by decide +kernel
theorem dX4_countReached_2 : decode cX4_countReached 2 = .ok (.iconst 0, 1) := by decide +kernel
theorem dX4_countReached_3 : decode cX4_countReached 3 = .ok (.invokevirtual 22, 3) := by decide +kernel
theorem dX4_countReached_6 : decode cX4_countReached 6 = .ok (.iconst 0, 1) := by decide +kernel
theorem dX4_countReached_7 : decode cX4_countReached 7 = .ok (.istore_n 2, 1) := by decide +kernel
theorem dX4_countReached_8 : decode cX4_countReached 8 = .ok (.iconst 0, 1) := by decide +kernel
theorem dX4_countReached_9 : decode cX4_countReached 9 = .ok (.istore_n 3, 1) := by decide +kernel
theorem dX4_countReached_10 : decode cX4_countReached 10 = .ok (.iload_n 3, 1) := by decide +kernel
theorem dX4_countReached_11 : decode cX4_countReached 11 = .ok (.aload_n 0, 1) := by decide +kernel
theorem dX4_countReached_12 : decode cX4_countReached 12 = .ok (.aload_n 1, 1) := by decide +kernel
theorem dX4_countReached_13 : decode cX4_countReached 13 = .ok (.invokevirtual 26, 3) := by decide +kernel
theorem dX4_countReached_16 : decode cX4_countReached 16 = .ok (.if_icmp .ge 21, 3) := by decide +kernel
theorem dX4_countReached_19 : decode cX4_countReached 19 = .ok (.iload_n 2, 1) := by decide +kernel
theorem dX4_countReached_20 : decode cX4_countReached 20 = .ok (.aload_n 0, 1) := by decide +kernel
theorem dX4_countReached_21 : decode cX4_countReached 21 = .ok (.getfield 9, 3) := by decide +kernel
theorem dX4_countReached_24 : decode cX4_countReached 24 = .ok (.iload_n 3, 1) := by decide +kernel
theorem dX4_countReached_25 : decode cX4_countReached 25 = .ok (.baload, 1) := by decide +kernel
theorem dX4_countReached_26 : decode cX4_countReached 26 = .ok (.invokestatic 30, 3) := by decide +kernel
theorem dX4_countReached_29 : decode cX4_countReached 29 = .ok (.iadd, 1) := by decide +kernel
theorem dX4_countReached_30 : decode cX4_countReached 30 = .ok (.istore_n 2, 1) := by decide +kernel
theorem dX4_countReached_31 : decode cX4_countReached 31 = .ok (.iinc 3 1, 3) := by decide +kernel
theorem dX4_countReached_34 : decode cX4_countReached 34 = .ok (.goto (-24), 3) := by decide +kernel
theorem dX4_countReached_37 : decode cX4_countReached 37 = .ok (.iload_n 2, 1) := by decide +kernel
theorem dX4_countReached_38 : decode cX4_countReached 38 = .ok (.ireturn, 1) := by decide +kernel
set_option maxRecDepth 20000 in
theorem ggX4_countDeadEnds_X4_explore : GoodIn wsX4_countDeadEnds wsX4_explore := goodIn_r _ [7, 1, 2, 8, 9, 10, 11, 6, 12, 13, 14, 15, 16, 17, 18, 19, 20, 21, 22, 23, 24, 25, 26, 27, 28, 29, 30, 31, 32, 33, 34, 35, 36, 37, 38, 39, 40, 41, 42, 43, 44, 45, 46, 47, 48, 49, 50, 51, 52, 53, 54, 55, 56, 57, 58, 59, 60, 61, 62, 63, 64, 65, 66, 67, 68, 69, 72, 73, 74, 75, 76, 77, 78, 79, 80, 81, 82, 83, 84, 85, 86, 87, 88, 89, 90, 91, 92, 93, 94, 95, 96, 97, 98, 99, 100, 101] (by decide +kernel) (by decide +kernel)
set_option maxRecDepth 20000 in
theorem gX4_countDeadEnds_X4_explore : GoodIn wsX4_countDeadEnds (wsV RX4 22 RX4 yX4_explore wsX4_explore) := goodIn_app (goodIn_of _ (by decide +kernel)) ggX4_countDeadEnds_X4_explore
set_option maxRecDepth 20000 in
theorem ggX4_countDeadEnds_X4_endOfStands : GoodIn wsX4_countDeadEnds wsX4_endOfStands := goodIn_r _ [12, 13, 14, 15, 16, 17, 75, 76, 77, 78, 79, 80, 81, 82, 83, 84, 85, 86] (by decide +kernel) (by decide +kernel)
set_option maxRecDepth 20000 in
theorem gX4_countDeadEnds_X4_endOfStands : GoodIn wsX4_countDeadEnds (wsV RX4 26 RX4 yX4_endOfStands wsX4_endOfStands) := goodIn_app (goodIn_of _ (by decide +kernel)) ggX4_countDeadEnds_X4_endOfStands
set_option maxRecDepth 20000 in
theorem ggX4_countDeadEnds_X6_oneIf : GoodIn wsX4_countDeadEnds wsX6_oneIf := goodIn_r _ [71] (by decide +kernel) (by decide +kernel)
set_option maxRecDepth 20000 in
theorem gX4_countDeadEnds_X6_oneIf_n30 : GoodIn wsX4_countDeadEnds (wsX6_oneIf) := ggX4_countDeadEnds_X6_oneIf
theorem dX4_countDeadEnds_0 : decode cX4_countDeadEnds 0 = .ok (.aload_n 0, 1) := by decide +kernel
theorem dX4_countDeadEnds_1 : decode cX4_countDeadEnds 1 = .ok (.aload_n 1, 1) := by decide +kernel
theorem dX4_countDeadEnds_2 : decode cX4_countDeadEnds 2 = .ok (.iconst 0, 1) := by decide +kernel
theorem dX4_countDeadEnds_3 : decode cX4_countDeadEnds 3 = .ok (.invokevirtual 22, 3) := by decide +kernel
theorem dX4_countDeadEnds_6 : decode cX4_countDeadEnds 6 = .ok (.iconst 0, 1) := by decide +kernel
theorem dX4_countDeadEnds_7 : decode cX4_countDeadEnds 7 = .ok (.istore_n 2, 1) := by decide +kernel
theorem dX4_countDeadEnds_8 : decode cX4_countDeadEnds 8 = .ok (.iconst 0, 1) := by decide +kernel
theorem dX4_countDeadEnds_9 : decode cX4_countDeadEnds 9 = .ok (.istore_n 3, 1) := by decide +kernel
theorem dX4_countDeadEnds_10 : decode cX4_countDeadEnds 10 = .ok (.iload_n 3, 1) := by decide +kernel
theorem dX4_countDeadEnds_11 : decode cX4_countDeadEnds 11 = .ok (.aload_n 0, 1) := by decide +kernel
theorem dX4_countDeadEnds_12 : decode cX4_countDeadEnds 12 = .ok (.aload_n 1, 1) := by decide +kernel
theorem dX4_countDeadEnds_13 : decode cX4_countDeadEnds 13 = .ok (.invokevirtual 26, 3) := by decide +kernel
theorem dX4_countDeadEnds_16 : decode cX4_countDeadEnds 16 = .ok (.if_icmp .ge 39, 3) := by decide +kernel
theorem dX4_countDeadEnds_19 : decode cX4_countDeadEnds 19 = .ok (.iload_n 2, 1) := by decide +kernel
theorem dX4_countDeadEnds_20 : decode cX4_countDeadEnds 20 = .ok (.aload_n 0, 1) := by decide +kernel
theorem dX4_countDeadEnds_21 : decode cX4_countDeadEnds 21 = .ok (.getfield 9, 3) := by decide +kernel
theorem dX4_countDeadEnds_24 : decode cX4_countDeadEnds 24 = .ok (.iload_n 3, 1) := by decide +kernel
theorem dX4_countDeadEnds_25 : decode cX4_countDeadEnds 25 = .ok (.baload, 1) := by decide +kernel
theorem dX4_countDeadEnds_26 : decode cX4_countDeadEnds 26 = .ok (.ifCond .eq 17, 3) := by decide +kernel
theorem dX4_countDeadEnds_29 : decode cX4_countDeadEnds 29 = .ok (.aload_n 0, 1) := by decide +kernel
theorem dX4_countDeadEnds_30 : decode cX4_countDeadEnds 30 = .ok (.getfield 19, 3) := by decide +kernel
theorem dX4_countDeadEnds_33 : decode cX4_countDeadEnds 33 = .ok (.iload_n 3, 1) := by decide +kernel
theorem dX4_countDeadEnds_34 : decode cX4_countDeadEnds 34 = .ok (.iaload, 1) := by decide +kernel
theorem dX4_countDeadEnds_35 : decode cX4_countDeadEnds 35 = .ok (.iconst (-1), 1) := by decide +kernel
theorem dX4_countDeadEnds_36 : decode cX4_countDeadEnds 36 = .ok (.if_icmp .ne 7, 3) := by decide +kernel
theorem dX4_countDeadEnds_43 : decode cX4_countDeadEnds 43 = .ok (.iconst 0, 1) := by decide +kernel
theorem dX4_countDeadEnds_44 : decode cX4_countDeadEnds 44 = .ok (.invokestatic 30, 3) := by decide +kernel
theorem dX4_countDeadEnds_47 : decode cX4_countDeadEnds 47 = .ok (.iadd, 1) := by decide +kernel
theorem dX4_countDeadEnds_48 : decode cX4_countDeadEnds 48 = .ok (.istore_n 2, 1) := by decide +kernel
theorem dX4_countDeadEnds_49 : decode cX4_countDeadEnds 49 = .ok (.iinc 3 1, 3) := by decide +kernel
theorem dX4_countDeadEnds_52 : decode cX4_countDeadEnds 52 = .ok (.goto (-42), 3) := by decide +kernel
theorem dX4_countDeadEnds_55 : decode cX4_countDeadEnds 55 = .ok (.iload_n 2, 1) := by decide +kernel
theorem dX4_countDeadEnds_56 : decode cX4_countDeadEnds 56 = .ok (.ireturn, 1) := by decide +kernel
set_option maxRecDepth 20000 in
theorem ggX4_findDepth_X4_explore : GoodIn wsX4_findDepth wsX4_explore := goodIn_r _ [5, 6, 7, 8, 9, 10, 11, 4, 12, 13, 14, 15, 16, 17, 18, 19, 20, 21, 22, 23, 24, 25, 26, 27, 28, 29, 30, 31, 32, 33, 34, 35, 36, 37, 38, 39, 40, 41, 42, 43, 44, 45, 46, 47, 48, 49, 50, 51, 52, 53, 54, 55, 56, 57, 58, 59, 60, 61, 62, 63, 64, 65, 66, 67, 68, 69, 70, 71, 72, 73, 74, 75, 76, 77, 78, 79, 80, 81, 82, 83, 84, 85, 86, 87, 88, 89, 90, 91, 92, 93, 94, 95, 96, 97, 98, 99] (by decide +kernel) (by decide +kernel)
set_option maxRecDepth 20000 in
theorem gX4_findDepth_X4_explore : GoodIn wsX4_findDepth (wsV RX4 22 RX4 yX4_explore wsX4_explore) := goodIn_app (goodIn_of _ (by decide +kernel)) ggX4_findDepth_X4_explore
set_option maxRecDepth 20000 in
theorem ggX4_findDepth_X3_openLocks : GoodIn wsX4_findDepth wsX3_openLocks := goodIn_r _ [22, 23, 24, 25, 73, 74, 75, 76, 77, 78, 79, 80, 81, 82, 83, 84, 85, 86, 87, 88, 89, 90, 91, 92, 93, 94] (by decide +kernel) (by decide +kernel)
set_option maxRecDepth 20000 in
theorem gX4_findDepth_X3_openLocks : GoodIn wsX4_findDepth (wsV RX4 34 RX3 yX3_openLocks wsX3_openLocks) := goodIn_app (goodIn_of _ (by decide +kernel)) ggX4_findDepth_X3_openLocks
set_option maxRecDepth 20000 in
theorem ggX4_findDepth_X4_yetBehind : GoodIn wsX4_findDepth wsX4_yetBehind := goodIn_r _ [69, 7, 70, 71, 72] (by decide +kernel) (by decide +kernel)
set_option maxRecDepth 20000 in
theorem gX4_findDepth_X4_yetBehind : GoodIn wsX4_findDepth (wsV RX4 40 RX4 yX4_yetBehind wsX4_yetBehind) := goodIn_app (goodIn_of _ (by decide +kernel)) ggX4_findDepth_X4_yetBehind
theorem dX4_findDepth_0 : decode cX4_findDepth 0 = .ok (.aload_n 0, 1) := by decide +kernel
theorem dX4_findDepth_1 : decode cX4_findDepth 1 = .ok (.aload_n 1, 1) := by decide +kernel
