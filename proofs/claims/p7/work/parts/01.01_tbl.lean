section
-- ===== PART A: goes FIRST, ahead of the names: the tables₉ words, and 'selects₉ of the private methods out of them =====
/-- a private method of a class that the tables say can be made, by its rows of tables_1 -/
theorem tb_1 : ∀ w ∈ tables_1_1, w ∈ tables_1 := fun _ h => List.mem_append_left _ h
theorem tb_2 : ∀ w ∈ tables_1_2, w ∈ tables_1 := fun _ h => List.mem_append_right _ (List.mem_append_left _ h)
theorem tb_3 : ∀ w ∈ tables_1_3, w ∈ tables_1 := fun _ h => List.mem_append_right _ (List.mem_append_right _ (List.mem_append_left _ h))
theorem tb_4 : ∀ w ∈ tables_1_4, w ∈ tables_1 := fun _ h => List.mem_append_right _ (List.mem_append_right _ (List.mem_append_right _ (List.mem_append_left _ h)))
theorem tb_5 : ∀ w ∈ tables_1_5, w ∈ tables_1 := fun _ h => List.mem_append_right _ (List.mem_append_right _ (List.mem_append_right _ (List.mem_append_right _ (List.mem_append_left _ h))))
theorem tb_6 : ∀ w ∈ tables_1_6, w ∈ tables_1 := fun _ h => List.mem_append_right _ (List.mem_append_right _ (List.mem_append_right _ (List.mem_append_right _ (List.mem_append_right _ (List.mem_append_left _ h)))))
theorem tb_7 : ∀ w ∈ tables_1_7, w ∈ tables_1 := fun _ h => List.mem_append_right _ (List.mem_append_right _ (List.mem_append_right _ (List.mem_append_right _ (List.mem_append_right _ (List.mem_append_right _ (List.mem_append_left _ h))))))
theorem tb_8 : ∀ w ∈ tables_1_8, w ∈ tables_1 := fun _ h => List.mem_append_right _ (List.mem_append_right _ (List.mem_append_right _ (List.mem_append_right _ (List.mem_append_right _ (List.mem_append_right _ (List.mem_append_right _ (List.mem_append_left _ h)))))))
theorem tb_9 : ∀ w ∈ tables_1_9, w ∈ tables_1 := fun _ h => List.mem_append_right _ (List.mem_append_right _ (List.mem_append_right _ (List.mem_append_right _ (List.mem_append_right _ (List.mem_append_right _ (List.mem_append_right _ (List.mem_append_right _ h)))))))
def lw_okq (q : MethodName × Nat) : Prop := (q.1.cls ≠ "java/lang/invoke/MethodHandle" ∧ q.1.cls ≠ "java/lang/invoke/VarHandle") ∧ Cond.instantiable q.1.cls q.2 ∈ tables_1 ∧ Cond.privateMethod q.1 ∈ tables_1 ∧ Cond.instanceMethod q.1 ∈ tables_1
theorem lw_p0 : lw_okq (⟨"ListenWells", "settle", "(I)I"⟩, 14) := ⟨⟨by decide +kernel, by decide +kernel⟩, tb_1 _ (List.mem_of_getElem? (i := 24) (by rfl)), tb_3 _ (List.mem_of_getElem? (i := 20) (by rfl)), tb_3 _ (List.mem_of_getElem? (i := 21) (by rfl))⟩
theorem lw_p1 : lw_okq (⟨"ListenWells$Asker", "askOf", "(III)V"⟩, 9) := ⟨⟨by decide +kernel, by decide +kernel⟩, tb_1 _ (List.mem_of_getElem? (i := 32) (by rfl)), tb_3 _ (List.mem_of_getElem? (i := 56) (by rfl)), tb_3 _ (List.mem_of_getElem? (i := 57) (by rfl))⟩
theorem lw_p2 : lw_okq (⟨"ListenWells$Asker", "tells", "(II)I"⟩, 9) := ⟨⟨by decide +kernel, by decide +kernel⟩, tb_1 _ (List.mem_of_getElem? (i := 32) (by rfl)), tb_3 _ (List.mem_of_getElem? (i := 60) (by rfl)), tb_3 _ (List.mem_of_getElem? (i := 61) (by rfl))⟩
theorem lw_p3 : lw_okq (⟨"ListenWells$Asker", "wordValue", "(II)I"⟩, 9) := ⟨⟨by decide +kernel, by decide +kernel⟩, tb_1 _ (List.mem_of_getElem? (i := 32) (by rfl)), tb_3 _ (List.mem_of_getElem? (i := 72) (by rfl)), tb_3 _ (List.mem_of_getElem? (i := 73) (by rfl))⟩
theorem lw_p4 : lw_okq (⟨"ListenWells$Reader", "splitIntoTokens", "()V"⟩, 10) := ⟨⟨by decide +kernel, by decide +kernel⟩, tb_2 _ (List.mem_of_getElem? (i := 72) (by rfl)), tb_3 _ (List.mem_of_getElem? (i := 188) (by rfl)), tb_3 _ (List.mem_of_getElem? (i := 189) (by rfl))⟩
theorem lw_p5 : lw_okq (⟨"ListenWells$Reader", "endOfRow", "(ICC)I"⟩, 10) := ⟨⟨by decide +kernel, by decide +kernel⟩, tb_2 _ (List.mem_of_getElem? (i := 72) (by rfl)), tb_3 _ (List.mem_of_getElem? (i := 192) (by rfl)), tb_3 _ (List.mem_of_getElem? (i := 193) (by rfl))⟩
theorem lw_p6 : lw_okq (⟨"ListenWells$Reader", "wordIn", "(II)I"⟩, 10) := ⟨⟨by decide +kernel, by decide +kernel⟩, tb_2 _ (List.mem_of_getElem? (i := 72) (by rfl)), tb_3 _ (List.mem_of_getElem? (i := 196) (by rfl)), tb_3 _ (List.mem_of_getElem? (i := 197) (by rfl))⟩
theorem lw_p7 : lw_okq (⟨"ListenWells$Reader", "isWord", "(III)Z"⟩, 10) := ⟨⟨by decide +kernel, by decide +kernel⟩, tb_2 _ (List.mem_of_getElem? (i := 72) (by rfl)), tb_3 _ (List.mem_of_getElem? (i := 200) (by rfl)), tb_3 _ (List.mem_of_getElem? (i := 201) (by rfl))⟩
theorem lw_p8 : lw_okq (⟨"ListenWells$Reader", "addToken", "(II)V"⟩, 10) := ⟨⟨by decide +kernel, by decide +kernel⟩, tb_2 _ (List.mem_of_getElem? (i := 72) (by rfl)), tb_4 _ (List.mem_of_getElem? (i := 5) (by rfl)), tb_4 _ (List.mem_of_getElem? (i := 6) (by rfl))⟩
theorem lw_p9 : lw_okq (⟨"ListenWells$Reader", "numberIn", "(II)I"⟩, 10) := ⟨⟨by decide +kernel, by decide +kernel⟩, tb_2 _ (List.mem_of_getElem? (i := 72) (by rfl)), tb_4 _ (List.mem_of_getElem? (i := 9) (by rfl)), tb_4 _ (List.mem_of_getElem? (i := 10) (by rfl))⟩
theorem lw_p10 : lw_okq (⟨"ListenWells$Reader", "beginHead", "()V"⟩, 10) := ⟨⟨by decide +kernel, by decide +kernel⟩, tb_2 _ (List.mem_of_getElem? (i := 72) (by rfl)), tb_4 _ (List.mem_of_getElem? (i := 14) (by rfl)), tb_4 _ (List.mem_of_getElem? (i := 15) (by rfl))⟩
theorem lw_p11 : lw_okq (⟨"ListenWells$Reader", "setHead", "(II)V"⟩, 10) := ⟨⟨by decide +kernel, by decide +kernel⟩, tb_2 _ (List.mem_of_getElem? (i := 72) (by rfl)), tb_4 _ (List.mem_of_getElem? (i := 18) (by rfl)), tb_4 _ (List.mem_of_getElem? (i := 19) (by rfl))⟩
theorem lw_p12 : lw_okq (⟨"ListenWells$Reader", "readOrder", "()Z"⟩, 10) := ⟨⟨by decide +kernel, by decide +kernel⟩, tb_2 _ (List.mem_of_getElem? (i := 72) (by rfl)), tb_4 _ (List.mem_of_getElem? (i := 26) (by rfl)), tb_4 _ (List.mem_of_getElem? (i := 27) (by rfl))⟩
theorem lw_p13 : lw_okq (⟨"ListenWells$Reader", "tokenNow", "()I"⟩, 10) := ⟨⟨by decide +kernel, by decide +kernel⟩, tb_2 _ (List.mem_of_getElem? (i := 72) (by rfl)), tb_4 _ (List.mem_of_getElem? (i := 30) (by rfl)), tb_4 _ (List.mem_of_getElem? (i := 31) (by rfl))⟩
theorem lw_p14 : lw_okq (⟨"ListenWells$Reader", "readSumOf", "(I)Z"⟩, 10) := ⟨⟨by decide +kernel, by decide +kernel⟩, tb_2 _ (List.mem_of_getElem? (i := 72) (by rfl)), tb_4 _ (List.mem_of_getElem? (i := 34) (by rfl)), tb_4 _ (List.mem_of_getElem? (i := 35) (by rfl))⟩
theorem lw_p15 : lw_okq (⟨"ListenWells$Reader", "readSum", "(I)Z"⟩, 10) := ⟨⟨by decide +kernel, by decide +kernel⟩, tb_2 _ (List.mem_of_getElem? (i := 72) (by rfl)), tb_4 _ (List.mem_of_getElem? (i := 38) (by rfl)), tb_4 _ (List.mem_of_getElem? (i := 39) (by rfl))⟩
def lw_privs_1 : List (MethodName × Nat) := [(⟨"ListenWells", "settle", "(I)I"⟩, 14), (⟨"ListenWells$Asker", "askOf", "(III)V"⟩, 9), (⟨"ListenWells$Asker", "tells", "(II)I"⟩, 9), (⟨"ListenWells$Asker", "wordValue", "(II)I"⟩, 9), (⟨"ListenWells$Reader", "splitIntoTokens", "()V"⟩, 10), (⟨"ListenWells$Reader", "endOfRow", "(ICC)I"⟩, 10), (⟨"ListenWells$Reader", "wordIn", "(II)I"⟩, 10), (⟨"ListenWells$Reader", "isWord", "(III)Z"⟩, 10), (⟨"ListenWells$Reader", "addToken", "(II)V"⟩, 10), (⟨"ListenWells$Reader", "numberIn", "(II)I"⟩, 10), (⟨"ListenWells$Reader", "beginHead", "()V"⟩, 10), (⟨"ListenWells$Reader", "setHead", "(II)V"⟩, 10), (⟨"ListenWells$Reader", "readOrder", "()Z"⟩, 10), (⟨"ListenWells$Reader", "tokenNow", "()I"⟩, 10), (⟨"ListenWells$Reader", "readSumOf", "(I)Z"⟩, 10), (⟨"ListenWells$Reader", "readSum", "(I)Z"⟩, 10)]
theorem lw_r1 : ∀ q ∈ lw_privs_1, lw_okq q := List.forall_mem_cons.mpr ⟨lw_p0, List.forall_mem_cons.mpr ⟨lw_p1, List.forall_mem_cons.mpr ⟨lw_p2, List.forall_mem_cons.mpr ⟨lw_p3, List.forall_mem_cons.mpr ⟨lw_p4, List.forall_mem_cons.mpr ⟨lw_p5, List.forall_mem_cons.mpr ⟨lw_p6, List.forall_mem_cons.mpr ⟨lw_p7, List.forall_mem_cons.mpr ⟨lw_p8, List.forall_mem_cons.mpr ⟨lw_p9, List.forall_mem_cons.mpr ⟨lw_p10, List.forall_mem_cons.mpr ⟨lw_p11, List.forall_mem_cons.mpr ⟨lw_p12, List.forall_mem_cons.mpr ⟨lw_p13, List.forall_mem_cons.mpr ⟨lw_p14, List.forall_mem_cons.mpr ⟨lw_p15, fun _ h => absurd h List.not_mem_nil⟩⟩⟩⟩⟩⟩⟩⟩⟩⟩⟩⟩⟩⟩⟩⟩
theorem lw_p16 : lw_okq (⟨"ListenWells$Reader", "readPart", "(I)Z"⟩, 10) := ⟨⟨by decide +kernel, by decide +kernel⟩, tb_2 _ (List.mem_of_getElem? (i := 72) (by rfl)), tb_4 _ (List.mem_of_getElem? (i := 42) (by rfl)), tb_4 _ (List.mem_of_getElem? (i := 43) (by rfl))⟩
theorem lw_p17 : lw_okq (⟨"ListenWells$Reader", "open", "(I)Z"⟩, 10) := ⟨⟨by decide +kernel, by decide +kernel⟩, tb_2 _ (List.mem_of_getElem? (i := 72) (by rfl)), tb_4 _ (List.mem_of_getElem? (i := 46) (by rfl)), tb_4 _ (List.mem_of_getElem? (i := 47) (by rfl))⟩
theorem lw_p18 : lw_okq (⟨"ListenWells$Reader", "take", "(I)Z"⟩, 10) := ⟨⟨by decide +kernel, by decide +kernel⟩, tb_2 _ (List.mem_of_getElem? (i := 72) (by rfl)), tb_4 _ (List.mem_of_getElem? (i := 50) (by rfl)), tb_4 _ (List.mem_of_getElem? (i := 51) (by rfl))⟩
theorem lw_p19 : lw_okq (⟨"ListenWells$Reader", "isPlainWord", "(I)Z"⟩, 10) := ⟨⟨by decide +kernel, by decide +kernel⟩, tb_2 _ (List.mem_of_getElem? (i := 72) (by rfl)), tb_4 _ (List.mem_of_getElem? (i := 57) (by rfl)), tb_4 _ (List.mem_of_getElem? (i := 58) (by rfl))⟩
theorem lw_p20 : lw_okq (⟨"ListenWells$Reader", "write", "(II)Z"⟩, 10) := ⟨⟨by decide +kernel, by decide +kernel⟩, tb_2 _ (List.mem_of_getElem? (i := 72) (by rfl)), tb_4 _ (List.mem_of_getElem? (i := 61) (by rfl)), tb_4 _ (List.mem_of_getElem? (i := 62) (by rfl))⟩
theorem lw_p21 : lw_okq (⟨"ListenWells$Reader", "readTimes", "()Z"⟩, 10) := ⟨⟨by decide +kernel, by decide +kernel⟩, tb_2 _ (List.mem_of_getElem? (i := 72) (by rfl)), tb_4 _ (List.mem_of_getElem? (i := 71) (by rfl)), tb_4 _ (List.mem_of_getElem? (i := 72) (by rfl))⟩
theorem lw_p22 : lw_okq (⟨"ListenWells$Reader", "readRule", "()Z"⟩, 10) := ⟨⟨by decide +kernel, by decide +kernel⟩, tb_2 _ (List.mem_of_getElem? (i := 72) (by rfl)), tb_4 _ (List.mem_of_getElem? (i := 75) (by rfl)), tb_4 _ (List.mem_of_getElem? (i := 76) (by rfl))⟩
theorem lw_p23 : lw_okq (⟨"ListenWells$Reader", "readIf", "()Z"⟩, 10) := ⟨⟨by decide +kernel, by decide +kernel⟩, tb_2 _ (List.mem_of_getElem? (i := 72) (by rfl)), tb_4 _ (List.mem_of_getElem? (i := 79) (by rfl)), tb_4 _ (List.mem_of_getElem? (i := 80) (by rfl))⟩
theorem lw_p24 : lw_okq (⟨"ListenWells$Reader", "readTest", "(I)Z"⟩, 10) := ⟨⟨by decide +kernel, by decide +kernel⟩, tb_2 _ (List.mem_of_getElem? (i := 72) (by rfl)), tb_4 _ (List.mem_of_getElem? (i := 83) (by rfl)), tb_4 _ (List.mem_of_getElem? (i := 84) (by rfl))⟩
theorem lw_p25 : lw_okq (⟨"ListenWells$Reader", "readPlain", "(I)Z"⟩, 10) := ⟨⟨by decide +kernel, by decide +kernel⟩, tb_2 _ (List.mem_of_getElem? (i := 72) (by rfl)), tb_4 _ (List.mem_of_getElem? (i := 87) (by rfl)), tb_4 _ (List.mem_of_getElem? (i := 88) (by rfl))⟩
theorem lw_p26 : lw_okq (⟨"ListenWells$Reader", "aimHere", "(I)V"⟩, 10) := ⟨⟨by decide +kernel, by decide +kernel⟩, tb_2 _ (List.mem_of_getElem? (i := 72) (by rfl)), tb_4 _ (List.mem_of_getElem? (i := 94) (by rfl)), tb_4 _ (List.mem_of_getElem? (i := 95) (by rfl))⟩
theorem lw_p27 : lw_okq (⟨"ListenWells$Reader", "placeNow", "()I"⟩, 10) := ⟨⟨by decide +kernel, by decide +kernel⟩, tb_2 _ (List.mem_of_getElem? (i := 72) (by rfl)), tb_4 _ (List.mem_of_getElem? (i := 98) (by rfl)), tb_4 _ (List.mem_of_getElem? (i := 99) (by rfl))⟩
theorem lw_p28 : lw_okq (⟨"ListenWells$Site", "runOrder", "(LListenWells$Text;I)Z"⟩, 5) := ⟨⟨by decide +kernel, by decide +kernel⟩, tb_1 _ (List.mem_of_getElem? (i := 67) (by rfl)), tb_4 _ (List.mem_of_getElem? (i := 159) (by rfl)), tb_4 _ (List.mem_of_getElem? (i := 160) (by rfl))⟩
theorem lw_p29 : lw_okq (⟨"ListenWells$Ears", "measureCell", "(I)V"⟩, 4) := ⟨⟨by decide +kernel, by decide +kernel⟩, tb_2 _ (List.mem_of_getElem? (i := 186) (by rfl)), tb_5 _ (List.mem_of_getElem? (i := 29) (by rfl)), tb_5 _ (List.mem_of_getElem? (i := 30) (by rfl))⟩
theorem lw_p30 : lw_okq (⟨"ListenWells$Ears", "loudness", "(II)I"⟩, 4) := ⟨⟨by decide +kernel, by decide +kernel⟩, tb_2 _ (List.mem_of_getElem? (i := 186) (by rfl)), tb_5 _ (List.mem_of_getElem? (i := 40) (by rfl)), tb_5 _ (List.mem_of_getElem? (i := 41) (by rfl))⟩
theorem lw_p31 : lw_okq (⟨"ListenWells", "findWay", "(II)Z"⟩, 14) := ⟨⟨by decide +kernel, by decide +kernel⟩, tb_1 _ (List.mem_of_getElem? (i := 24) (by rfl)), tb_5 _ (List.mem_of_getElem? (i := 87) (by rfl)), tb_5 _ (List.mem_of_getElem? (i := 88) (by rfl))⟩
def lw_privs_2 : List (MethodName × Nat) := [(⟨"ListenWells$Reader", "readPart", "(I)Z"⟩, 10), (⟨"ListenWells$Reader", "open", "(I)Z"⟩, 10), (⟨"ListenWells$Reader", "take", "(I)Z"⟩, 10), (⟨"ListenWells$Reader", "isPlainWord", "(I)Z"⟩, 10), (⟨"ListenWells$Reader", "write", "(II)Z"⟩, 10), (⟨"ListenWells$Reader", "readTimes", "()Z"⟩, 10), (⟨"ListenWells$Reader", "readRule", "()Z"⟩, 10), (⟨"ListenWells$Reader", "readIf", "()Z"⟩, 10), (⟨"ListenWells$Reader", "readTest", "(I)Z"⟩, 10), (⟨"ListenWells$Reader", "readPlain", "(I)Z"⟩, 10), (⟨"ListenWells$Reader", "aimHere", "(I)V"⟩, 10), (⟨"ListenWells$Reader", "placeNow", "()I"⟩, 10), (⟨"ListenWells$Site", "runOrder", "(LListenWells$Text;I)Z"⟩, 5), (⟨"ListenWells$Ears", "measureCell", "(I)V"⟩, 4), (⟨"ListenWells$Ears", "loudness", "(II)I"⟩, 4), (⟨"ListenWells", "findWay", "(II)Z"⟩, 14)]
theorem lw_r2 : ∀ q ∈ lw_privs_2, lw_okq q := List.forall_mem_cons.mpr ⟨lw_p16, List.forall_mem_cons.mpr ⟨lw_p17, List.forall_mem_cons.mpr ⟨lw_p18, List.forall_mem_cons.mpr ⟨lw_p19, List.forall_mem_cons.mpr ⟨lw_p20, List.forall_mem_cons.mpr ⟨lw_p21, List.forall_mem_cons.mpr ⟨lw_p22, List.forall_mem_cons.mpr ⟨lw_p23, List.forall_mem_cons.mpr ⟨lw_p24, List.forall_mem_cons.mpr ⟨lw_p25, List.forall_mem_cons.mpr ⟨lw_p26, List.forall_mem_cons.mpr ⟨lw_p27, List.forall_mem_cons.mpr ⟨lw_p28, List.forall_mem_cons.mpr ⟨lw_p29, List.forall_mem_cons.mpr ⟨lw_p30, List.forall_mem_cons.mpr ⟨lw_p31, fun _ h => absurd h List.not_mem_nil⟩⟩⟩⟩⟩⟩⟩⟩⟩⟩⟩⟩⟩⟩⟩⟩
theorem lw_p32 : lw_okq (⟨"ListenWells$Ways", "daysBy", "(II)I"⟩, 11) := ⟨⟨by decide +kernel, by decide +kernel⟩, tb_2 _ (List.mem_of_getElem? (i := 142) (by rfl)), tb_5 _ (List.mem_of_getElem? (i := 104) (by rfl)), tb_5 _ (List.mem_of_getElem? (i := 105) (by rfl))⟩
theorem lw_p33 : lw_okq (⟨"ListenWells$Ways", "priceAll", "(LListenWells$World;LListenWells$Asker;I)V"⟩, 11) := ⟨⟨by decide +kernel, by decide +kernel⟩, tb_2 _ (List.mem_of_getElem? (i := 142) (by rfl)), tb_5 _ (List.mem_of_getElem? (i := 129) (by rfl)), tb_5 _ (List.mem_of_getElem? (i := 130) (by rfl))⟩
theorem lw_p34 : lw_okq (⟨"ListenWells$Ways", "fewestFrom", "(III)I"⟩, 11) := ⟨⟨by decide +kernel, by decide +kernel⟩, tb_2 _ (List.mem_of_getElem? (i := 142) (by rfl)), tb_5 _ (List.mem_of_getElem? (i := 136) (by rfl)), tb_5 _ (List.mem_of_getElem? (i := 137) (by rfl))⟩
theorem lw_p35 : lw_okq (⟨"ListenWells$Ways", "daysWith", "(III)I"⟩, 11) := ⟨⟨by decide +kernel, by decide +kernel⟩, tb_2 _ (List.mem_of_getElem? (i := 142) (by rfl)), tb_5 _ (List.mem_of_getElem? (i := 140) (by rfl)), tb_5 _ (List.mem_of_getElem? (i := 141) (by rfl))⟩
theorem lw_p36 : lw_okq (⟨"ListenWells$Ways", "fillRow", "(II)V"⟩, 11) := ⟨⟨by decide +kernel, by decide +kernel⟩, tb_2 _ (List.mem_of_getElem? (i := 142) (by rfl)), tb_5 _ (List.mem_of_getElem? (i := 144) (by rfl)), tb_5 _ (List.mem_of_getElem? (i := 145) (by rfl))⟩
theorem lw_p37 : lw_okq (⟨"ListenWells$Ears", "allHear", "(LListenWells$World;III)Z"⟩, 4) := ⟨⟨by decide +kernel, by decide +kernel⟩, tb_2 _ (List.mem_of_getElem? (i := 186) (by rfl)), tb_5 _ (List.mem_of_getElem? (i := 162) (by rfl)), tb_5 _ (List.mem_of_getElem? (i := 163) (by rfl))⟩
theorem lw_p38 : lw_okq (⟨"ListenWells$Ears", "isAsHeard", "(LListenWells$Folk;I)Z"⟩, 4) := ⟨⟨by decide +kernel, by decide +kernel⟩, tb_2 _ (List.mem_of_getElem? (i := 186) (by rfl)), tb_5 _ (List.mem_of_getElem? (i := 189) (by rfl)), tb_5 _ (List.mem_of_getElem? (i := 190) (by rfl))⟩
theorem lw_p39 : lw_okq (⟨"ListenWells$Folk", "meanWater", "(I)Z"⟩, 13) := ⟨⟨by decide +kernel, by decide +kernel⟩, tb_1 _ (List.mem_of_getElem? (i := 141) (by rfl)), tb_5 _ (List.mem_of_getElem? (i := 221) (by rfl)), tb_5 _ (List.mem_of_getElem? (i := 222) (by rfl))⟩
theorem lw_p40 : lw_okq (⟨"ListenWellsModel", "tell", "(I)I"⟩, 59) := ⟨⟨by decide +kernel, by decide +kernel⟩, tb_6 _ (List.mem_of_getElem? (i := 46) (by rfl)), tb_7 _ (List.mem_of_getElem? (i := 16) (by rfl)), tb_7 _ (List.mem_of_getElem? (i := 17) (by rfl))⟩
theorem lw_p41 : lw_okq (⟨"ListenWellsModel", "putBack", "(I)V"⟩, 59) := ⟨⟨by decide +kernel, by decide +kernel⟩, tb_6 _ (List.mem_of_getElem? (i := 46) (by rfl)), tb_7 _ (List.mem_of_getElem? (i := 20) (by rfl)), tb_7 _ (List.mem_of_getElem? (i := 21) (by rfl))⟩
theorem lw_p42 : lw_okq (⟨"ListenWellsModel", "settled", "(I)I"⟩, 59) := ⟨⟨by decide +kernel, by decide +kernel⟩, tb_6 _ (List.mem_of_getElem? (i := 46) (by rfl)), tb_7 _ (List.mem_of_getElem? (i := 35) (by rfl)), tb_7 _ (List.mem_of_getElem? (i := 36) (by rfl))⟩
theorem lw_p43 : lw_okq (⟨"ListenWellsModel", "change", "(II)I"⟩, 59) := ⟨⟨by decide +kernel, by decide +kernel⟩, tb_6 _ (List.mem_of_getElem? (i := 46) (by rfl)), tb_7 _ (List.mem_of_getElem? (i := 56) (by rfl)), tb_7 _ (List.mem_of_getElem? (i := 57) (by rfl))⟩
theorem lw_p44 : lw_okq (⟨"ListenWellsModel", "saysOf", "(II)I"⟩, 59) := ⟨⟨by decide +kernel, by decide +kernel⟩, tb_6 _ (List.mem_of_getElem? (i := 46) (by rfl)), tb_7 _ (List.mem_of_getElem? (i := 64) (by rfl)), tb_7 _ (List.mem_of_getElem? (i := 65) (by rfl))⟩
theorem lw_p45 : lw_okq (⟨"ListenWellsModel", "tells", "(IIIIJ)J"⟩, 59) := ⟨⟨by decide +kernel, by decide +kernel⟩, tb_6 _ (List.mem_of_getElem? (i := 46) (by rfl)), tb_7 _ (List.mem_of_getElem? (i := 69) (by rfl)), tb_7 _ (List.mem_of_getElem? (i := 70) (by rfl))⟩
theorem lw_p46 : lw_okq (⟨"ListenWellsModel", "isSo", "(I)Z"⟩, 59) := ⟨⟨by decide +kernel, by decide +kernel⟩, tb_6 _ (List.mem_of_getElem? (i := 46) (by rfl)), tb_7 _ (List.mem_of_getElem? (i := 73) (by rfl)), tb_7 _ (List.mem_of_getElem? (i := 74) (by rfl))⟩
theorem lw_p47 : lw_okq (⟨"ListenWellsModel", "reckonAll", "(II)V"⟩, 59) := ⟨⟨by decide +kernel, by decide +kernel⟩, tb_6 _ (List.mem_of_getElem? (i := 46) (by rfl)), tb_7 _ (List.mem_of_getElem? (i := 77) (by rfl)), tb_7 _ (List.mem_of_getElem? (i := 78) (by rfl))⟩
def lw_privs_3 : List (MethodName × Nat) := [(⟨"ListenWells$Ways", "daysBy", "(II)I"⟩, 11), (⟨"ListenWells$Ways", "priceAll", "(LListenWells$World;LListenWells$Asker;I)V"⟩, 11), (⟨"ListenWells$Ways", "fewestFrom", "(III)I"⟩, 11), (⟨"ListenWells$Ways", "daysWith", "(III)I"⟩, 11), (⟨"ListenWells$Ways", "fillRow", "(II)V"⟩, 11), (⟨"ListenWells$Ears", "allHear", "(LListenWells$World;III)Z"⟩, 4), (⟨"ListenWells$Ears", "isAsHeard", "(LListenWells$Folk;I)Z"⟩, 4), (⟨"ListenWells$Folk", "meanWater", "(I)Z"⟩, 13), (⟨"ListenWellsModel", "tell", "(I)I"⟩, 59), (⟨"ListenWellsModel", "putBack", "(I)V"⟩, 59), (⟨"ListenWellsModel", "settled", "(I)I"⟩, 59), (⟨"ListenWellsModel", "change", "(II)I"⟩, 59), (⟨"ListenWellsModel", "saysOf", "(II)I"⟩, 59), (⟨"ListenWellsModel", "tells", "(IIIIJ)J"⟩, 59), (⟨"ListenWellsModel", "isSo", "(I)Z"⟩, 59), (⟨"ListenWellsModel", "reckonAll", "(II)V"⟩, 59)]
theorem lw_r3 : ∀ q ∈ lw_privs_3, lw_okq q := List.forall_mem_cons.mpr ⟨lw_p32, List.forall_mem_cons.mpr ⟨lw_p33, List.forall_mem_cons.mpr ⟨lw_p34, List.forall_mem_cons.mpr ⟨lw_p35, List.forall_mem_cons.mpr ⟨lw_p36, List.forall_mem_cons.mpr ⟨lw_p37, List.forall_mem_cons.mpr ⟨lw_p38, List.forall_mem_cons.mpr ⟨lw_p39, List.forall_mem_cons.mpr ⟨lw_p40, List.forall_mem_cons.mpr ⟨lw_p41, List.forall_mem_cons.mpr ⟨lw_p42, List.forall_mem_cons.mpr ⟨lw_p43, List.forall_mem_cons.mpr ⟨lw_p44, List.forall_mem_cons.mpr ⟨lw_p45, List.forall_mem_cons.mpr ⟨lw_p46, List.forall_mem_cons.mpr ⟨lw_p47, fun _ h => absurd h List.not_mem_nil⟩⟩⟩⟩⟩⟩⟩⟩⟩⟩⟩⟩⟩⟩⟩⟩
theorem lw_p48 : lw_okq (⟨"ListenWellsModel", "isEar", "(I)Z"⟩, 59) := ⟨⟨by decide +kernel, by decide +kernel⟩, tb_6 _ (List.mem_of_getElem? (i := 46) (by rfl)), tb_7 _ (List.mem_of_getElem? (i := 81) (by rfl)), tb_7 _ (List.mem_of_getElem? (i := 82) (by rfl))⟩
theorem lw_p49 : lw_okq (⟨"ListenWellsModel", "isShaft", "(I)Z"⟩, 59) := ⟨⟨by decide +kernel, by decide +kernel⟩, tb_6 _ (List.mem_of_getElem? (i := 46) (by rfl)), tb_7 _ (List.mem_of_getElem? (i := 85) (by rfl)), tb_7 _ (List.mem_of_getElem? (i := 86) (by rfl))⟩
theorem lw_p50 : lw_okq (⟨"ListenWellsModel", "reckon", "(IJJ)J"⟩, 59) := ⟨⟨by decide +kernel, by decide +kernel⟩, tb_6 _ (List.mem_of_getElem? (i := 46) (by rfl)), tb_7 _ (List.mem_of_getElem? (i := 90) (by rfl)), tb_7 _ (List.mem_of_getElem? (i := 91) (by rfl))⟩
theorem lw_p51 : lw_okq (⟨"ListenWellsModel", "losesOf", "(II)I"⟩, 59) := ⟨⟨by decide +kernel, by decide +kernel⟩, tb_6 _ (List.mem_of_getElem? (i := 46) (by rfl)), tb_7 _ (List.mem_of_getElem? (i := 99) (by rfl)), tb_7 _ (List.mem_of_getElem? (i := 100) (by rfl))⟩
theorem lw_p52 : lw_okq (⟨"ListenWellsModel", "isSpoilt", "(I)Z"⟩, 59) := ⟨⟨by decide +kernel, by decide +kernel⟩, tb_6 _ (List.mem_of_getElem? (i := 46) (by rfl)), tb_7 _ (List.mem_of_getElem? (i := 116) (by rfl)), tb_7 _ (List.mem_of_getElem? (i := 117) (by rfl))⟩
theorem lw_p53 : lw_okq (⟨"ListenWellsModel", "hasFound", "(I)Z"⟩, 59) := ⟨⟨by decide +kernel, by decide +kernel⟩, tb_6 _ (List.mem_of_getElem? (i := 46) (by rfl)), tb_7 _ (List.mem_of_getElem? (i := 120) (by rfl)), tb_7 _ (List.mem_of_getElem? (i := 121) (by rfl))⟩
theorem lw_p54 : lw_okq (⟨"ListenWellsModel", "hasOf", "(I)I"⟩, 59) := ⟨⟨by decide +kernel, by decide +kernel⟩, tb_6 _ (List.mem_of_getElem? (i := 46) (by rfl)), tb_7 _ (List.mem_of_getElem? (i := 124) (by rfl)), tb_7 _ (List.mem_of_getElem? (i := 125) (by rfl))⟩
theorem lw_p55 : lw_okq (⟨"ListenWellsModel", "veinOf", "(I)J"⟩, 59) := ⟨⟨by decide +kernel, by decide +kernel⟩, tb_6 _ (List.mem_of_getElem? (i := 46) (by rfl)), tb_7 _ (List.mem_of_getElem? (i := 128) (by rfl)), tb_7 _ (List.mem_of_getElem? (i := 129) (by rfl))⟩
theorem lw_p56 : lw_okq (⟨"ListenWellsModel", "waterOf", "(J)I"⟩, 59) := ⟨⟨by decide +kernel, by decide +kernel⟩, tb_6 _ (List.mem_of_getElem? (i := 46) (by rfl)), tb_7 _ (List.mem_of_getElem? (i := 141) (by rfl)), tb_7 _ (List.mem_of_getElem? (i := 142) (by rfl))⟩
theorem lw_p57 : lw_okq (⟨"ListenWellsModel", "shaftsIn", "(J)I"⟩, 59) := ⟨⟨by decide +kernel, by decide +kernel⟩, tb_6 _ (List.mem_of_getElem? (i := 46) (by rfl)), tb_7 _ (List.mem_of_getElem? (i := 145) (by rfl)), tb_7 _ (List.mem_of_getElem? (i := 146) (by rfl))⟩
theorem lw_p58 : lw_okq (⟨"ListenWellsModel", "isNoise", "(I)Z"⟩, 59) := ⟨⟨by decide +kernel, by decide +kernel⟩, tb_6 _ (List.mem_of_getElem? (i := 46) (by rfl)), tb_7 _ (List.mem_of_getElem? (i := 162) (by rfl)), tb_7 _ (List.mem_of_getElem? (i := 163) (by rfl))⟩
theorem lw_p59 : lw_okq (⟨"ListenWellsModel", "four", "(I)V"⟩, 59) := ⟨⟨by decide +kernel, by decide +kernel⟩, tb_6 _ (List.mem_of_getElem? (i := 46) (by rfl)), tb_7 _ (List.mem_of_getElem? (i := 184) (by rfl)), tb_7 _ (List.mem_of_getElem? (i := 185) (by rfl))⟩
theorem lw_p60 : lw_okq (⟨"ListenWellsModel", "beginText", "(Z)V"⟩, 59) := ⟨⟨by decide +kernel, by decide +kernel⟩, tb_6 _ (List.mem_of_getElem? (i := 46) (by rfl)), tb_7 _ (List.mem_of_getElem? (i := 200) (by rfl)), tb_7 _ (List.mem_of_getElem? (i := 201) (by rfl))⟩
theorem lw_p61 : lw_okq (⟨"ListenWellsModel", "begin", "()V"⟩, 59) := ⟨⟨by decide +kernel, by decide +kernel⟩, tb_6 _ (List.mem_of_getElem? (i := 46) (by rfl)), tb_7 _ (List.mem_of_getElem? (i := 204) (by rfl)), tb_7 _ (List.mem_of_getElem? (i := 205) (by rfl))⟩
theorem lw_p62 : lw_okq (⟨"ListenWellsModel", "nextToken", "()V"⟩, 59) := ⟨⟨by decide +kernel, by decide +kernel⟩, tb_6 _ (List.mem_of_getElem? (i := 46) (by rfl)), tb_7 _ (List.mem_of_getElem? (i := 208) (by rfl)), tb_7 _ (List.mem_of_getElem? (i := 209) (by rfl))⟩
theorem lw_p63 : lw_okq (⟨"ListenWellsModel", "readLaw", "()V"⟩, 59) := ⟨⟨by decide +kernel, by decide +kernel⟩, tb_6 _ (List.mem_of_getElem? (i := 46) (by rfl)), tb_7 _ (List.mem_of_getElem? (i := 222) (by rfl)), tb_7 _ (List.mem_of_getElem? (i := 223) (by rfl))⟩
def lw_privs_4 : List (MethodName × Nat) := [(⟨"ListenWellsModel", "isEar", "(I)Z"⟩, 59), (⟨"ListenWellsModel", "isShaft", "(I)Z"⟩, 59), (⟨"ListenWellsModel", "reckon", "(IJJ)J"⟩, 59), (⟨"ListenWellsModel", "losesOf", "(II)I"⟩, 59), (⟨"ListenWellsModel", "isSpoilt", "(I)Z"⟩, 59), (⟨"ListenWellsModel", "hasFound", "(I)Z"⟩, 59), (⟨"ListenWellsModel", "hasOf", "(I)I"⟩, 59), (⟨"ListenWellsModel", "veinOf", "(I)J"⟩, 59), (⟨"ListenWellsModel", "waterOf", "(J)I"⟩, 59), (⟨"ListenWellsModel", "shaftsIn", "(J)I"⟩, 59), (⟨"ListenWellsModel", "isNoise", "(I)Z"⟩, 59), (⟨"ListenWellsModel", "four", "(I)V"⟩, 59), (⟨"ListenWellsModel", "beginText", "(Z)V"⟩, 59), (⟨"ListenWellsModel", "begin", "()V"⟩, 59), (⟨"ListenWellsModel", "nextToken", "()V"⟩, 59), (⟨"ListenWellsModel", "readLaw", "()V"⟩, 59)]
theorem lw_r4 : ∀ q ∈ lw_privs_4, lw_okq q := List.forall_mem_cons.mpr ⟨lw_p48, List.forall_mem_cons.mpr ⟨lw_p49, List.forall_mem_cons.mpr ⟨lw_p50, List.forall_mem_cons.mpr ⟨lw_p51, List.forall_mem_cons.mpr ⟨lw_p52, List.forall_mem_cons.mpr ⟨lw_p53, List.forall_mem_cons.mpr ⟨lw_p54, List.forall_mem_cons.mpr ⟨lw_p55, List.forall_mem_cons.mpr ⟨lw_p56, List.forall_mem_cons.mpr ⟨lw_p57, List.forall_mem_cons.mpr ⟨lw_p58, List.forall_mem_cons.mpr ⟨lw_p59, List.forall_mem_cons.mpr ⟨lw_p60, List.forall_mem_cons.mpr ⟨lw_p61, List.forall_mem_cons.mpr ⟨lw_p62, List.forall_mem_cons.mpr ⟨lw_p63, fun _ h => absurd h List.not_mem_nil⟩⟩⟩⟩⟩⟩⟩⟩⟩⟩⟩⟩⟩⟩⟩⟩
theorem lw_p64 : lw_okq (⟨"ListenWellsModel", "isWord", "(J)Z"⟩, 59) := ⟨⟨by decide +kernel, by decide +kernel⟩, tb_6 _ (List.mem_of_getElem? (i := 46) (by rfl)), tb_7 _ (List.mem_of_getElem? (i := 226) (by rfl)), tb_7 _ (List.mem_of_getElem? (i := 227) (by rfl))⟩
theorem lw_p65 : lw_okq (⟨"ListenWellsModel", "must", "(Z)V"⟩, 59) := ⟨⟨by decide +kernel, by decide +kernel⟩, tb_6 _ (List.mem_of_getElem? (i := 46) (by rfl)), tb_7 _ (List.mem_of_getElem? (i := 230) (by rfl)), tb_7 _ (List.mem_of_getElem? (i := 231) (by rfl))⟩
theorem lw_p66 : lw_okq (⟨"ListenWellsModel", "readExpression", "(Z)V"⟩, 59) := ⟨⟨by decide +kernel, by decide +kernel⟩, tb_6 _ (List.mem_of_getElem? (i := 46) (by rfl)), tb_7 _ (List.mem_of_getElem? (i := 234) (by rfl)), tb_7 _ (List.mem_of_getElem? (i := 235) (by rfl))⟩
theorem lw_p67 : lw_okq (⟨"ListenWellsModel", "readPlain", "()I"⟩, 59) := ⟨⟨by decide +kernel, by decide +kernel⟩, tb_6 _ (List.mem_of_getElem? (i := 46) (by rfl)), tb_7 _ (List.mem_of_getElem? (i := 238) (by rfl)), tb_7 _ (List.mem_of_getElem? (i := 239) (by rfl))⟩
theorem lw_p68 : lw_okq (⟨"ListenWellsModel", "push", "(II)V"⟩, 59) := ⟨⟨by decide +kernel, by decide +kernel⟩, tb_6 _ (List.mem_of_getElem? (i := 46) (by rfl)), tb_8 _ (List.mem_of_getElem? (i := 3) (by rfl)), tb_8 _ (List.mem_of_getElem? (i := 4) (by rfl))⟩
theorem lw_p69 : lw_okq (⟨"ListenWellsModel", "isSign", "(I)Z"⟩, 59) := ⟨⟨by decide +kernel, by decide +kernel⟩, tb_6 _ (List.mem_of_getElem? (i := 46) (by rfl)), tb_8 _ (List.mem_of_getElem? (i := 7) (by rfl)), tb_8 _ (List.mem_of_getElem? (i := 8) (by rfl))⟩
theorem lw_p70 : lw_okq (⟨"ListenWellsModel", "openBracket", "(I)V"⟩, 59) := ⟨⟨by decide +kernel, by decide +kernel⟩, tb_6 _ (List.mem_of_getElem? (i := 46) (by rfl)), tb_8 _ (List.mem_of_getElem? (i := 11) (by rfl)), tb_8 _ (List.mem_of_getElem? (i := 12) (by rfl))⟩
theorem lw_p71 : lw_okq (⟨"ListenWellsModel", "readPart", "()I"⟩, 59) := ⟨⟨by decide +kernel, by decide +kernel⟩, tb_6 _ (List.mem_of_getElem? (i := 46) (by rfl)), tb_8 _ (List.mem_of_getElem? (i := 15) (by rfl)), tb_8 _ (List.mem_of_getElem? (i := 16) (by rfl))⟩
theorem lw_p72 : lw_okq (⟨"ListenWellsModel", "orderPartAt", "()I"⟩, 59) := ⟨⟨by decide +kernel, by decide +kernel⟩, tb_6 _ (List.mem_of_getElem? (i := 46) (by rfl)), tb_8 _ (List.mem_of_getElem? (i := 19) (by rfl)), tb_8 _ (List.mem_of_getElem? (i := 20) (by rfl))⟩
theorem lw_p73 : lw_okq (⟨"ListenWellsModel", "partAt", "()I"⟩, 59) := ⟨⟨by decide +kernel, by decide +kernel⟩, tb_6 _ (List.mem_of_getElem? (i := 46) (by rfl)), tb_8 _ (List.mem_of_getElem? (i := 23) (by rfl)), tb_8 _ (List.mem_of_getElem? (i := 24) (by rfl))⟩
theorem lw_p74 : lw_okq (⟨"ListenWellsModel", "leaf", "(ZII)V"⟩, 59) := ⟨⟨by decide +kernel, by decide +kernel⟩, tb_6 _ (List.mem_of_getElem? (i := 46) (by rfl)), tb_8 _ (List.mem_of_getElem? (i := 28) (by rfl)), tb_8 _ (List.mem_of_getElem? (i := 29) (by rfl))⟩
theorem lw_p75 : lw_okq (⟨"ListenWellsModel", "emit", "(II)V"⟩, 59) := ⟨⟨by decide +kernel, by decide +kernel⟩, tb_6 _ (List.mem_of_getElem? (i := 46) (by rfl)), tb_8 _ (List.mem_of_getElem? (i := 32) (by rfl)), tb_8 _ (List.mem_of_getElem? (i := 33) (by rfl))⟩
theorem lw_p76 : lw_okq (⟨"ListenWellsModel", "number", "(JJ)I"⟩, 59) := ⟨⟨by decide +kernel, by decide +kernel⟩, tb_6 _ (List.mem_of_getElem? (i := 46) (by rfl)), tb_8 _ (List.mem_of_getElem? (i := 37) (by rfl)), tb_8 _ (List.mem_of_getElem? (i := 38) (by rfl))⟩
theorem lw_p77 : lw_okq (⟨"ListenWellsModel", "behindSum", "(Z)I"⟩, 59) := ⟨⟨by decide +kernel, by decide +kernel⟩, tb_6 _ (List.mem_of_getElem? (i := 46) (by rfl)), tb_8 _ (List.mem_of_getElem? (i := 41) (by rfl)), tb_8 _ (List.mem_of_getElem? (i := 42) (by rfl))⟩
theorem lw_p78 : lw_okq (⟨"ListenWellsModel", "settle", "(I)V"⟩, 59) := ⟨⟨by decide +kernel, by decide +kernel⟩, tb_6 _ (List.mem_of_getElem? (i := 46) (by rfl)), tb_8 _ (List.mem_of_getElem? (i := 48) (by rfl)), tb_8 _ (List.mem_of_getElem? (i := 49) (by rfl))⟩
theorem lw_p79 : lw_okq (⟨"ListenWellsModel", "inner", "()I"⟩, 59) := ⟨⟨by decide +kernel, by decide +kernel⟩, tb_6 _ (List.mem_of_getElem? (i := 46) (by rfl)), tb_8 _ (List.mem_of_getElem? (i := 52) (by rfl)), tb_8 _ (List.mem_of_getElem? (i := 53) (by rfl))⟩
def lw_privs_5 : List (MethodName × Nat) := [(⟨"ListenWellsModel", "isWord", "(J)Z"⟩, 59), (⟨"ListenWellsModel", "must", "(Z)V"⟩, 59), (⟨"ListenWellsModel", "readExpression", "(Z)V"⟩, 59), (⟨"ListenWellsModel", "readPlain", "()I"⟩, 59), (⟨"ListenWellsModel", "push", "(II)V"⟩, 59), (⟨"ListenWellsModel", "isSign", "(I)Z"⟩, 59), (⟨"ListenWellsModel", "openBracket", "(I)V"⟩, 59), (⟨"ListenWellsModel", "readPart", "()I"⟩, 59), (⟨"ListenWellsModel", "orderPartAt", "()I"⟩, 59), (⟨"ListenWellsModel", "partAt", "()I"⟩, 59), (⟨"ListenWellsModel", "leaf", "(ZII)V"⟩, 59), (⟨"ListenWellsModel", "emit", "(II)V"⟩, 59), (⟨"ListenWellsModel", "number", "(JJ)I"⟩, 59), (⟨"ListenWellsModel", "behindSum", "(Z)I"⟩, 59), (⟨"ListenWellsModel", "settle", "(I)V"⟩, 59), (⟨"ListenWellsModel", "inner", "()I"⟩, 59)]
theorem lw_r5 : ∀ q ∈ lw_privs_5, lw_okq q := List.forall_mem_cons.mpr ⟨lw_p64, List.forall_mem_cons.mpr ⟨lw_p65, List.forall_mem_cons.mpr ⟨lw_p66, List.forall_mem_cons.mpr ⟨lw_p67, List.forall_mem_cons.mpr ⟨lw_p68, List.forall_mem_cons.mpr ⟨lw_p69, List.forall_mem_cons.mpr ⟨lw_p70, List.forall_mem_cons.mpr ⟨lw_p71, List.forall_mem_cons.mpr ⟨lw_p72, List.forall_mem_cons.mpr ⟨lw_p73, List.forall_mem_cons.mpr ⟨lw_p74, List.forall_mem_cons.mpr ⟨lw_p75, List.forall_mem_cons.mpr ⟨lw_p76, List.forall_mem_cons.mpr ⟨lw_p77, List.forall_mem_cons.mpr ⟨lw_p78, List.forall_mem_cons.mpr ⟨lw_p79, fun _ h => absurd h List.not_mem_nil⟩⟩⟩⟩⟩⟩⟩⟩⟩⟩⟩⟩⟩⟩⟩⟩
theorem lw_p80 : lw_okq (⟨"ListenWellsModel", "isCompared", "()Z"⟩, 59) := ⟨⟨by decide +kernel, by decide +kernel⟩, tb_6 _ (List.mem_of_getElem? (i := 46) (by rfl)), tb_8 _ (List.mem_of_getElem? (i := 56) (by rfl)), tb_8 _ (List.mem_of_getElem? (i := 57) (by rfl))⟩
theorem lw_p81 : lw_okq (⟨"ListenWellsModel", "behindTest", "()I"⟩, 59) := ⟨⟨by decide +kernel, by decide +kernel⟩, tb_6 _ (List.mem_of_getElem? (i := 46) (by rfl)), tb_8 _ (List.mem_of_getElem? (i := 63) (by rfl)), tb_8 _ (List.mem_of_getElem? (i := 64) (by rfl))⟩
theorem lw_p82 : lw_okq (⟨"ListenWellsModel", "endText", "()V"⟩, 59) := ⟨⟨by decide +kernel, by decide +kernel⟩, tb_6 _ (List.mem_of_getElem? (i := 46) (by rfl)), tb_8 _ (List.mem_of_getElem? (i := 70) (by rfl)), tb_8 _ (List.mem_of_getElem? (i := 71) (by rfl))⟩
theorem lw_p83 : lw_okq (⟨"ListenWellsModel", "isLaw", "(I)Z"⟩, 59) := ⟨⟨by decide +kernel, by decide +kernel⟩, tb_6 _ (List.mem_of_getElem? (i := 46) (by rfl)), tb_8 _ (List.mem_of_getElem? (i := 78) (by rfl)), tb_8 _ (List.mem_of_getElem? (i := 79) (by rfl))⟩
theorem lw_p84 : lw_okq (⟨"ListenWellsModel", "digsOf", "(II)I"⟩, 59) := ⟨⟨by decide +kernel, by decide +kernel⟩, tb_6 _ (List.mem_of_getElem? (i := 46) (by rfl)), tb_8 _ (List.mem_of_getElem? (i := 86) (by rfl)), tb_8 _ (List.mem_of_getElem? (i := 87) (by rfl))⟩
theorem lw_p85 : lw_okq (⟨"ListenWellsModel", "isPassed", "(II)Z"⟩, 59) := ⟨⟨by decide +kernel, by decide +kernel⟩, tb_6 _ (List.mem_of_getElem? (i := 46) (by rfl)), tb_8 _ (List.mem_of_getElem? (i := 90) (by rfl)), tb_8 _ (List.mem_of_getElem? (i := 91) (by rfl))⟩
theorem lw_p86 : lw_okq (⟨"ListenWellsModel", "givesOf", "(II)I"⟩, 59) := ⟨⟨by decide +kernel, by decide +kernel⟩, tb_6 _ (List.mem_of_getElem? (i := 46) (by rfl)), tb_8 _ (List.mem_of_getElem? (i := 94) (by rfl)), tb_8 _ (List.mem_of_getElem? (i := 95) (by rfl))⟩
theorem lw_p87 : lw_okq (⟨"ListenWellsModel", "loudAs", "(III)I"⟩, 59) := ⟨⟨by decide +kernel, by decide +kernel⟩, tb_6 _ (List.mem_of_getElem? (i := 46) (by rfl)), tb_8 _ (List.mem_of_getElem? (i := 102) (by rfl)), tb_8 _ (List.mem_of_getElem? (i := 103) (by rfl))⟩
theorem lw_p88 : lw_okq (⟨"ListenWellsModel", "dinBut", "(II)I"⟩, 59) := ⟨⟨by decide +kernel, by decide +kernel⟩, tb_6 _ (List.mem_of_getElem? (i := 46) (by rfl)), tb_8 _ (List.mem_of_getElem? (i := 111) (by rfl)), tb_8 _ (List.mem_of_getElem? (i := 112) (by rfl))⟩
theorem lw_p89 : lw_okq (⟨"ListenWellsModel", "heardBy", "(I)J"⟩, 59) := ⟨⟨by decide +kernel, by decide +kernel⟩, tb_6 _ (List.mem_of_getElem? (i := 46) (by rfl)), tb_8 _ (List.mem_of_getElem? (i := 119) (by rfl)), tb_8 _ (List.mem_of_getElem? (i := 120) (by rfl))⟩
theorem lw_p90 : lw_okq (⟨"ListenWellsModel", "canHear", "(III)Z"⟩, 59) := ⟨⟨by decide +kernel, by decide +kernel⟩, tb_6 _ (List.mem_of_getElem? (i := 46) (by rfl)), tb_8 _ (List.mem_of_getElem? (i := 123) (by rfl)), tb_8 _ (List.mem_of_getElem? (i := 124) (by rfl))⟩
theorem lw_p91 : lw_okq (⟨"ListenWellsModel", "digNow", "(II)I"⟩, 59) := ⟨⟨by decide +kernel, by decide +kernel⟩, tb_6 _ (List.mem_of_getElem? (i := 46) (by rfl)), tb_8 _ (List.mem_of_getElem? (i := 131) (by rfl)), tb_8 _ (List.mem_of_getElem? (i := 132) (by rfl))⟩
theorem lw_p92 : lw_okq (⟨"ListenWellsModel", "canDig", "(II)Z"⟩, 59) := ⟨⟨by decide +kernel, by decide +kernel⟩, tb_6 _ (List.mem_of_getElem? (i := 46) (by rfl)), tb_8 _ (List.mem_of_getElem? (i := 135) (by rfl)), tb_8 _ (List.mem_of_getElem? (i := 136) (by rfl))⟩
theorem lw_p93 : lw_okq (⟨"ListenWellsModel", "mayDig", "(I)Z"⟩, 59) := ⟨⟨by decide +kernel, by decide +kernel⟩, tb_6 _ (List.mem_of_getElem? (i := 46) (by rfl)), tb_8 _ (List.mem_of_getElem? (i := 142) (by rfl)), tb_8 _ (List.mem_of_getElem? (i := 143) (by rfl))⟩
theorem lw_p94 : lw_okq (⟨"ListenWellsModel", "remember", "(I)V"⟩, 59) := ⟨⟨by decide +kernel, by decide +kernel⟩, tb_6 _ (List.mem_of_getElem? (i := 46) (by rfl)), tb_8 _ (List.mem_of_getElem? (i := 146) (by rfl)), tb_8 _ (List.mem_of_getElem? (i := 147) (by rfl))⟩
theorem lw_p95 : lw_okq (⟨"ListenWellsModel", "keepAll", "(I)V"⟩, 59) := ⟨⟨by decide +kernel, by decide +kernel⟩, tb_6 _ (List.mem_of_getElem? (i := 46) (by rfl)), tb_8 _ (List.mem_of_getElem? (i := 150) (by rfl)), tb_8 _ (List.mem_of_getElem? (i := 151) (by rfl))⟩
def lw_privs_6 : List (MethodName × Nat) := [(⟨"ListenWellsModel", "isCompared", "()Z"⟩, 59), (⟨"ListenWellsModel", "behindTest", "()I"⟩, 59), (⟨"ListenWellsModel", "endText", "()V"⟩, 59), (⟨"ListenWellsModel", "isLaw", "(I)Z"⟩, 59), (⟨"ListenWellsModel", "digsOf", "(II)I"⟩, 59), (⟨"ListenWellsModel", "isPassed", "(II)Z"⟩, 59), (⟨"ListenWellsModel", "givesOf", "(II)I"⟩, 59), (⟨"ListenWellsModel", "loudAs", "(III)I"⟩, 59), (⟨"ListenWellsModel", "dinBut", "(II)I"⟩, 59), (⟨"ListenWellsModel", "heardBy", "(I)J"⟩, 59), (⟨"ListenWellsModel", "canHear", "(III)Z"⟩, 59), (⟨"ListenWellsModel", "digNow", "(II)I"⟩, 59), (⟨"ListenWellsModel", "canDig", "(II)Z"⟩, 59), (⟨"ListenWellsModel", "mayDig", "(I)Z"⟩, 59), (⟨"ListenWellsModel", "remember", "(I)V"⟩, 59), (⟨"ListenWellsModel", "keepAll", "(I)V"⟩, 59)]
theorem lw_r6 : ∀ q ∈ lw_privs_6, lw_okq q := List.forall_mem_cons.mpr ⟨lw_p80, List.forall_mem_cons.mpr ⟨lw_p81, List.forall_mem_cons.mpr ⟨lw_p82, List.forall_mem_cons.mpr ⟨lw_p83, List.forall_mem_cons.mpr ⟨lw_p84, List.forall_mem_cons.mpr ⟨lw_p85, List.forall_mem_cons.mpr ⟨lw_p86, List.forall_mem_cons.mpr ⟨lw_p87, List.forall_mem_cons.mpr ⟨lw_p88, List.forall_mem_cons.mpr ⟨lw_p89, List.forall_mem_cons.mpr ⟨lw_p90, List.forall_mem_cons.mpr ⟨lw_p91, List.forall_mem_cons.mpr ⟨lw_p92, List.forall_mem_cons.mpr ⟨lw_p93, List.forall_mem_cons.mpr ⟨lw_p94, List.forall_mem_cons.mpr ⟨lw_p95, fun _ h => absurd h List.not_mem_nil⟩⟩⟩⟩⟩⟩⟩⟩⟩⟩⟩⟩⟩⟩⟩⟩
theorem lw_p96 : lw_okq (⟨"ListenWellsModel", "digIt", "(II)I"⟩, 59) := ⟨⟨by decide +kernel, by decide +kernel⟩, tb_6 _ (List.mem_of_getElem? (i := 46) (by rfl)), tb_8 _ (List.mem_of_getElem? (i := 154) (by rfl)), tb_8 _ (List.mem_of_getElem? (i := 155) (by rfl))⟩
theorem lw_p97 : lw_okq (⟨"ListenWellsModel", "haulNow", "(I)I"⟩, 59) := ⟨⟨by decide +kernel, by decide +kernel⟩, tb_6 _ (List.mem_of_getElem? (i := 46) (by rfl)), tb_8 _ (List.mem_of_getElem? (i := 162) (by rfl)), tb_8 _ (List.mem_of_getElem? (i := 163) (by rfl))⟩
theorem lw_p98 : lw_okq (⟨"ListenWellsModel", "canHaul", "(I)Z"⟩, 59) := ⟨⟨by decide +kernel, by decide +kernel⟩, tb_6 _ (List.mem_of_getElem? (i := 46) (by rfl)), tb_8 _ (List.mem_of_getElem? (i := 166) (by rfl)), tb_8 _ (List.mem_of_getElem? (i := 167) (by rfl))⟩
theorem lw_p99 : lw_okq (⟨"ListenWellsModel", "haulIt", "(I)I"⟩, 59) := ⟨⟨by decide +kernel, by decide +kernel⟩, tb_6 _ (List.mem_of_getElem? (i := 46) (by rfl)), tb_8 _ (List.mem_of_getElem? (i := 170) (by rfl)), tb_8 _ (List.mem_of_getElem? (i := 171) (by rfl))⟩
theorem lw_p100 : lw_okq (⟨"ListenWellsModel", "hushNow", "(I)I"⟩, 59) := ⟨⟨by decide +kernel, by decide +kernel⟩, tb_6 _ (List.mem_of_getElem? (i := 46) (by rfl)), tb_8 _ (List.mem_of_getElem? (i := 178) (by rfl)), tb_8 _ (List.mem_of_getElem? (i := 179) (by rfl))⟩
theorem lw_p101 : lw_okq (⟨"ListenWellsModel", "lieNow", "(II)I"⟩, 59) := ⟨⟨by decide +kernel, by decide +kernel⟩, tb_6 _ (List.mem_of_getElem? (i := 46) (by rfl)), tb_8 _ (List.mem_of_getElem? (i := 186) (by rfl)), tb_8 _ (List.mem_of_getElem? (i := 187) (by rfl))⟩
theorem lw_p102 : lw_okq (⟨"ListenWellsModel", "findDown", "(II)I"⟩, 59) := ⟨⟨by decide +kernel, by decide +kernel⟩, tb_6 _ (List.mem_of_getElem? (i := 46) (by rfl)), tb_8 _ (List.mem_of_getElem? (i := 194) (by rfl)), tb_8 _ (List.mem_of_getElem? (i := 195) (by rfl))⟩
theorem lw_p103 : lw_okq (⟨"ListenWellsModel", "daysBy", "(IIII)I"⟩, 59) := ⟨⟨by decide +kernel, by decide +kernel⟩, tb_6 _ (List.mem_of_getElem? (i := 46) (by rfl)), tb_8 _ (List.mem_of_getElem? (i := 199) (by rfl)), tb_8 _ (List.mem_of_getElem? (i := 200) (by rfl))⟩
theorem lw_p104 : lw_okq (⟨"ListenWellsModel", "nextDown", "(III)I"⟩, 59) := ⟨⟨by decide +kernel, by decide +kernel⟩, tb_6 _ (List.mem_of_getElem? (i := 46) (by rfl)), tb_8 _ (List.mem_of_getElem? (i := 203) (by rfl)), tb_8 _ (List.mem_of_getElem? (i := 204) (by rfl))⟩
theorem lw_p105 : lw_okq (⟨"ListenWellsModel", "findGangs", "(I)V"⟩, 59) := ⟨⟨by decide +kernel, by decide +kernel⟩, tb_6 _ (List.mem_of_getElem? (i := 46) (by rfl)), tb_8 _ (List.mem_of_getElem? (i := 215) (by rfl)), tb_8 _ (List.mem_of_getElem? (i := 216) (by rfl))⟩
theorem lw_p106 : lw_okq (⟨"ListenWellsModel", "weighGangs", "(II)V"⟩, 59) := ⟨⟨by decide +kernel, by decide +kernel⟩, tb_6 _ (List.mem_of_getElem? (i := 46) (by rfl)), tb_8 _ (List.mem_of_getElem? (i := 219) (by rfl)), tb_8 _ (List.mem_of_getElem? (i := 220) (by rfl))⟩
theorem lw_p107 : lw_okq (⟨"ListenWellsModel", "isFree", "(I)Z"⟩, 59) := ⟨⟨by decide +kernel, by decide +kernel⟩, tb_6 _ (List.mem_of_getElem? (i := 46) (by rfl)), tb_8 _ (List.mem_of_getElem? (i := 223) (by rfl)), tb_8 _ (List.mem_of_getElem? (i := 224) (by rfl))⟩
theorem lw_p108 : lw_okq (⟨"ListenWellsModel", "isHidden", "(I)Z"⟩, 59) := ⟨⟨by decide +kernel, by decide +kernel⟩, tb_6 _ (List.mem_of_getElem? (i := 46) (by rfl)), tb_9 _ (List.mem_of_getElem? (i := 3) (by rfl)), tb_9 _ (List.mem_of_getElem? (i := 4) (by rfl))⟩
theorem lw_p109 : lw_okq (⟨"ListenWellsModel", "soundOf", "(II)I"⟩, 59) := ⟨⟨by decide +kernel, by decide +kernel⟩, tb_6 _ (List.mem_of_getElem? (i := 46) (by rfl)), tb_9 _ (List.mem_of_getElem? (i := 7) (by rfl)), tb_9 _ (List.mem_of_getElem? (i := 8) (by rfl))⟩
theorem lw_p110 : lw_okq (⟨"ListenWellsModel", "readOrder", "()V"⟩, 59) := ⟨⟨by decide +kernel, by decide +kernel⟩, tb_6 _ (List.mem_of_getElem? (i := 46) (by rfl)), tb_9 _ (List.mem_of_getElem? (i := 42) (by rfl)), tb_9 _ (List.mem_of_getElem? (i := 43) (by rfl))⟩
theorem lw_p111 : lw_okq (⟨"ListenWellsModel", "readSum", "(I)V"⟩, 59) := ⟨⟨by decide +kernel, by decide +kernel⟩, tb_6 _ (List.mem_of_getElem? (i := 46) (by rfl)), tb_9 _ (List.mem_of_getElem? (i := 46) (by rfl)), tb_9 _ (List.mem_of_getElem? (i := 47) (by rfl))⟩
def lw_privs_7 : List (MethodName × Nat) := [(⟨"ListenWellsModel", "digIt", "(II)I"⟩, 59), (⟨"ListenWellsModel", "haulNow", "(I)I"⟩, 59), (⟨"ListenWellsModel", "canHaul", "(I)Z"⟩, 59), (⟨"ListenWellsModel", "haulIt", "(I)I"⟩, 59), (⟨"ListenWellsModel", "hushNow", "(I)I"⟩, 59), (⟨"ListenWellsModel", "lieNow", "(II)I"⟩, 59), (⟨"ListenWellsModel", "findDown", "(II)I"⟩, 59), (⟨"ListenWellsModel", "daysBy", "(IIII)I"⟩, 59), (⟨"ListenWellsModel", "nextDown", "(III)I"⟩, 59), (⟨"ListenWellsModel", "findGangs", "(I)V"⟩, 59), (⟨"ListenWellsModel", "weighGangs", "(II)V"⟩, 59), (⟨"ListenWellsModel", "isFree", "(I)Z"⟩, 59), (⟨"ListenWellsModel", "isHidden", "(I)Z"⟩, 59), (⟨"ListenWellsModel", "soundOf", "(II)I"⟩, 59), (⟨"ListenWellsModel", "readOrder", "()V"⟩, 59), (⟨"ListenWellsModel", "readSum", "(I)V"⟩, 59)]
theorem lw_r7 : ∀ q ∈ lw_privs_7, lw_okq q := List.forall_mem_cons.mpr ⟨lw_p96, List.forall_mem_cons.mpr ⟨lw_p97, List.forall_mem_cons.mpr ⟨lw_p98, List.forall_mem_cons.mpr ⟨lw_p99, List.forall_mem_cons.mpr ⟨lw_p100, List.forall_mem_cons.mpr ⟨lw_p101, List.forall_mem_cons.mpr ⟨lw_p102, List.forall_mem_cons.mpr ⟨lw_p103, List.forall_mem_cons.mpr ⟨lw_p104, List.forall_mem_cons.mpr ⟨lw_p105, List.forall_mem_cons.mpr ⟨lw_p106, List.forall_mem_cons.mpr ⟨lw_p107, List.forall_mem_cons.mpr ⟨lw_p108, List.forall_mem_cons.mpr ⟨lw_p109, List.forall_mem_cons.mpr ⟨lw_p110, List.forall_mem_cons.mpr ⟨lw_p111, fun _ h => absurd h List.not_mem_nil⟩⟩⟩⟩⟩⟩⟩⟩⟩⟩⟩⟩⟩⟩⟩⟩
theorem lw_p112 : lw_okq (⟨"ListenWellsModel", "run", "(I)I"⟩, 59) := ⟨⟨by decide +kernel, by decide +kernel⟩, tb_6 _ (List.mem_of_getElem? (i := 46) (by rfl)), tb_9 _ (List.mem_of_getElem? (i := 53) (by rfl)), tb_9 _ (List.mem_of_getElem? (i := 54) (by rfl))⟩
theorem lw_p113 : lw_okq (⟨"ListenWellsModel", "sumOf", "(I)I"⟩, 59) := ⟨⟨by decide +kernel, by decide +kernel⟩, tb_6 _ (List.mem_of_getElem? (i := 46) (by rfl)), tb_9 _ (List.mem_of_getElem? (i := 57) (by rfl)), tb_9 _ (List.mem_of_getElem? (i := 58) (by rfl))⟩
theorem lw_p114 : lw_okq (⟨"ListenWellsModel", "act", "(III)I"⟩, 59) := ⟨⟨by decide +kernel, by decide +kernel⟩, tb_6 _ (List.mem_of_getElem? (i := 46) (by rfl)), tb_9 _ (List.mem_of_getElem? (i := 61) (by rfl)), tb_9 _ (List.mem_of_getElem? (i := 62) (by rfl))⟩
theorem lw_p115 : lw_okq (⟨"ListenWellsModel", "giveBack", "(I)V"⟩, 59) := ⟨⟨by decide +kernel, by decide +kernel⟩, tb_6 _ (List.mem_of_getElem? (i := 46) (by rfl)), tb_9 _ (List.mem_of_getElem? (i := 65) (by rfl)), tb_9 _ (List.mem_of_getElem? (i := 66) (by rfl))⟩
theorem lw_p116 : lw_okq (⟨"ListenWellsModel", "draw", "(I)I"⟩, 59) := ⟨⟨by decide +kernel, by decide +kernel⟩, tb_6 _ (List.mem_of_getElem? (i := 46) (by rfl)), tb_9 _ (List.mem_of_getElem? (i := 78) (by rfl)), tb_9 _ (List.mem_of_getElem? (i := 79) (by rfl))⟩
theorem lw_p117 : lw_okq (⟨"ListenWellsModel", "dugCells", "()I"⟩, 59) := ⟨⟨by decide +kernel, by decide +kernel⟩, tb_6 _ (List.mem_of_getElem? (i := 46) (by rfl)), tb_9 _ (List.mem_of_getElem? (i := 93) (by rfl)), tb_9 _ (List.mem_of_getElem? (i := 94) (by rfl))⟩
def lw_privs_8 : List (MethodName × Nat) := [(⟨"ListenWellsModel", "run", "(I)I"⟩, 59), (⟨"ListenWellsModel", "sumOf", "(I)I"⟩, 59), (⟨"ListenWellsModel", "act", "(III)I"⟩, 59), (⟨"ListenWellsModel", "giveBack", "(I)V"⟩, 59), (⟨"ListenWellsModel", "draw", "(I)I"⟩, 59), (⟨"ListenWellsModel", "dugCells", "()I"⟩, 59)]
theorem lw_r8 : ∀ q ∈ lw_privs_8, lw_okq q := List.forall_mem_cons.mpr ⟨lw_p112, List.forall_mem_cons.mpr ⟨lw_p113, List.forall_mem_cons.mpr ⟨lw_p114, List.forall_mem_cons.mpr ⟨lw_p115, List.forall_mem_cons.mpr ⟨lw_p116, List.forall_mem_cons.mpr ⟨lw_p117, fun _ h => absurd h List.not_mem_nil⟩⟩⟩⟩⟩⟩
def lw_privs : List (MethodName × Nat) := lw_privs_1 ++ (lw_privs_2 ++ (lw_privs_3 ++ (lw_privs_4 ++ (lw_privs_5 ++ (lw_privs_6 ++ (lw_privs_7 ++ (lw_privs_8)))))))
def lw_tbl : List Cond := k2_sels lw_privs ++ tables_1
theorem lw_privs_ok : ∀ q ∈ lw_privs, lw_okq q := by
  show ∀ q ∈ lw_privs_1 ++ (lw_privs_2 ++ (lw_privs_3 ++ (lw_privs_4 ++ (lw_privs_5 ++ (lw_privs_6 ++ (lw_privs_7 ++ (lw_privs_8))))))), lw_okq q
  exact List.forall_mem_append.mpr ⟨lw_r1, List.forall_mem_append.mpr ⟨lw_r2, List.forall_mem_append.mpr ⟨lw_r3, List.forall_mem_append.mpr ⟨lw_r4, List.forall_mem_append.mpr ⟨lw_r5, List.forall_mem_append.mpr ⟨lw_r6, List.forall_mem_append.mpr ⟨lw_r7, lw_r8⟩⟩⟩⟩⟩⟩⟩
end
section
/-! classes, the words that may go along, the worlds₉ common pieces -/
def RX0 : String := "ListenWells$Asker"
def TX0 : u_T := fun k => match k with
  | 0 => ("ListenWells$Asker", "stack", "[J", true)
  | 1 => ("ListenWells$Asker", "world", "LListenWells$World;", false)
  | 2 => ("ListenWells$Asker", "law", "LListenWells$Text;", false)
  | 3 => ("ListenWells$Asker", "cell", "I", false)
  | 4 => ("ListenWells$Asker", "shaft", "I", false)
  | 5 => ("ListenWells$Asker", "kind", "I", false)
  | 6 => ("ListenWells$Asker", "done", "I", false)
  | 7 => ("ListenWells$Asker", "latest", "I", false)
  | _ => ("ListenWells$Asker", "value", "I", false)
def tyX0 : Nat → FieldType := fun k => match k with
  | 0 => .array .long
  | 1 => .object "ListenWells$World"
  | 2 => .object "ListenWells$Text"
  | 3 => .int
  | 4 => .int
  | 5 => .int
  | 6 => .int
  | 7 => .int
  | _ => .int
theorem nmX0 : ∀ a, a < 9 → ∀ b, b < 9 → a ≠ b → (TX0 a).2.1 ≠ (TX0 b).2.1 := by decide +kernel
theorem tyX0_ok : ∀ k, k < 9 → parseFieldDescriptor (TX0 k).2.2.1 = some (tyX0 k) := by decide +kernel
def RX1 : String := "ListenWells$Crew"
def TX1 : u_T := fun k => match k with
  | 0 => ("ListenWells$Crew", "cell", "[I", true)
  | 1 => ("ListenWells$Crew", "buckets", "[I", true)
  | _ => ("ListenWells$Crew", "count", "I", false)
def tyX1 : Nat → FieldType := fun k => match k with
  | 0 => .array .int
  | 1 => .array .int
  | _ => .int
theorem nmX1 : ∀ a, a < 3 → ∀ b, b < 3 → a ≠ b → (TX1 a).2.1 ≠ (TX1 b).2.1 := by decide +kernel
theorem tyX1_ok : ∀ k, k < 3 → parseFieldDescriptor (TX1 k).2.2.1 = some (tyX1 k) := by decide +kernel
def RX2 : String := "ListenWells$Diary"
def TX2 : u_T := fun k => match k with
  | 0 => ("ListenWells$Diary", "deed", "[I", true)
  | 1 => ("ListenWells$Diary", "whose", "[I", true)
  | 2 => ("ListenWells$Diary", "before", "[I", true)
  | 3 => ("ListenWells$Diary", "bucketsBefore", "[I", true)
  | 4 => ("ListenWells$Diary", "dayBefore", "[I", true)
  | 5 => ("ListenWells$Diary", "kept", "I", false)
  | _ => ("ListenWells$Diary", "latest", "I", false)
def tyX2 : Nat → FieldType := fun k => match k with
  | 0 => .array .int
  | 1 => .array .int
  | 2 => .array .int
  | 3 => .array .int
  | 4 => .array .int
  | 5 => .int
  | _ => .int
theorem nmX2 : ∀ a, a < 7 → ∀ b, b < 7 → a ≠ b → (TX2 a).2.1 ≠ (TX2 b).2.1 := by decide +kernel
theorem tyX2_ok : ∀ k, k < 7 → parseFieldDescriptor (TX2 k).2.2.1 = some (tyX2 k) := by decide +kernel
def RX3 : String := "ListenWells$Ears"
def TX3 : u_T := fun k => match k with
  | 0 => ("ListenWells$Ears", "asker", "LListenWells$Asker;", true)
  | 1 => ("ListenWells$Ears", "said", "[I", true)
  | 2 => ("ListenWells$Ears", "lost", "[I", true)
  | _ => ("ListenWells$Ears", "alike", "[I", true)
def tyX3 : Nat → FieldType := fun k => match k with
  | 0 => .object "ListenWells$Asker"
  | 1 => .array .int
  | 2 => .array .int
  | _ => .array .int
theorem nmX3 : ∀ a, a < 4 → ∀ b, b < 4 → a ≠ b → (TX3 a).2.1 ≠ (TX3 b).2.1 := by decide +kernel
theorem tyX3_ok : ∀ k, k < 4 → parseFieldDescriptor (TX3 k).2.2.1 = some (tyX3 k) := by decide +kernel
def RX4 : String := "ListenWells$Folk"
def TX4 : u_T := fun k => match k with
  | 0 => ("ListenWells$Folk", "column", "[I", true)
  | 1 => ("ListenWells$Folk", "ear", "[I", true)
  | 2 => ("ListenWells$Folk", "listeners", "I", false)
  | 3 => ("ListenWells$Folk", "noiseColumn", "[I", true)
  | 4 => ("ListenWells$Folk", "noiseLoud", "[I", true)
  | 5 => ("ListenWells$Folk", "noises", "I", false)
  | 6 => ("ListenWells$Folk", "hushed", "I", false)
  | 7 => ("ListenWells$Folk", "hearsayColumn", "[I", true)
  | 8 => ("ListenWells$Folk", "hearsayLoud", "[I", true)
  | 9 => ("ListenWells$Folk", "hearsay", "I", false)
  | 10 => ("ListenWells$Folk", "sounds", "[I", true)
  | 11 => ("ListenWells$Folk", "wet", "[I", true)
  | _ => ("ListenWells$Folk", "wells", "I", false)
def tyX4 : Nat → FieldType := fun k => match k with
  | 0 => .array .int
  | 1 => .array .int
  | 2 => .int
  | 3 => .array .int
  | 4 => .array .int
  | 5 => .int
  | 6 => .int
  | 7 => .array .int
  | 8 => .array .int
  | 9 => .int
  | 10 => .array .int
  | 11 => .array .int
  | _ => .int
theorem nmX4 : ∀ a, a < 13 → ∀ b, b < 13 → a ≠ b → (TX4 a).2.1 ≠ (TX4 b).2.1 := by decide +kernel
theorem tyX4_ok : ∀ k, k < 13 → parseFieldDescriptor (TX4 k).2.2.1 = some (tyX4 k) := by decide +kernel
def RX5 : String := "ListenWells$Reader"
def TX5 : u_T := fun k => match k with
  | 0 => ("ListenWells$Reader", "bytes", "[I", true)
  | 1 => ("ListenWells$Reader", "length", "I", false)
  | 2 => ("ListenWells$Reader", "tokens", "[I", true)
  | 3 => ("ListenWells$Reader", "places", "[I", true)
  | 4 => ("ListenWells$Reader", "tokenCount", "I", false)
  | 5 => ("ListenWells$Reader", "now", "I", false)
  | 6 => ("ListenWells$Reader", "parts", "I", false)
  | 7 => ("ListenWells$Reader", "asOrders", "Z", false)
  | 8 => ("ListenWells$Reader", "faultPlace", "I", false)
  | _ => ("ListenWells$Reader", "draft", "LListenWells$Text;", true)
def tyX5 : Nat → FieldType := fun k => match k with
  | 0 => .array .int
  | 1 => .int
  | 2 => .array .int
  | 3 => .array .int
  | 4 => .int
  | 5 => .int
  | 6 => .int
  | 7 => .boolean
  | 8 => .int
  | _ => .object "ListenWells$Text"
theorem nmX5 : ∀ a, a < 10 → ∀ b, b < 10 → a ≠ b → (TX5 a).2.1 ≠ (TX5 b).2.1 := by decide +kernel
theorem tyX5_ok : ∀ k, k < 10 → parseFieldDescriptor (TX5 k).2.2.1 = some (tyX5 k) := by decide +kernel
def RX6 : String := "ListenWells$Rock"
def TX6 : u_T := fun k => match k with
  | 0 => ("ListenWells$Rock", "kind", "[I", true)
  | 1 => ("ListenWells$Rock", "hard", "[I", true)
  | 2 => ("ListenWells$Rock", "water", "[I", true)
  | _ => ("ListenWells$Rock", "dug", "J", false)
def tyX6 : Nat → FieldType := fun k => match k with
  | 0 => .array .int
  | 1 => .array .int
  | 2 => .array .int
  | _ => .long
theorem nmX6 : ∀ a, a < 4 → ∀ b, b < 4 → a ≠ b → (TX6 a).2.1 ≠ (TX6 b).2.1 := by decide +kernel
theorem tyX6_ok : ∀ k, k < 4 → parseFieldDescriptor (TX6 k).2.2.1 = some (tyX6 k) := by decide +kernel
def RX7 : String := "ListenWells$Site"
def TX7 : u_T := fun k => match k with
  | 0 => ("ListenWells$Site", "world", "LListenWells$World;", true)
  | 1 => ("ListenWells$Site", "diary", "LListenWells$Diary;", true)
  | 2 => ("ListenWells$Site", "asker", "LListenWells$Asker;", true)
  | 3 => ("ListenWells$Site", "done", "I", false)
  | _ => ("ListenWells$Site", "latest", "I", false)
def tyX7 : Nat → FieldType := fun k => match k with
  | 0 => .object "ListenWells$World"
  | 1 => .object "ListenWells$Diary"
  | 2 => .object "ListenWells$Asker"
  | 3 => .int
  | _ => .int
theorem nmX7 : ∀ a, a < 5 → ∀ b, b < 5 → a ≠ b → (TX7 a).2.1 ≠ (TX7 b).2.1 := by decide +kernel
theorem tyX7_ok : ∀ k, k < 5 → parseFieldDescriptor (TX7 k).2.2.1 = some (tyX7 k) := by decide +kernel
def RX8 : String := "ListenWells$Text"
def TX8 : u_T := fun k => match k with
  | 0 => ("ListenWells$Text", "heads", "[I", true)
  | 1 => ("ListenWells$Text", "code", "[I", true)
  | 2 => ("ListenWells$Text", "clauses", "I", false)
  | _ => ("ListenWells$Text", "length", "I", false)
def tyX8 : Nat → FieldType := fun k => match k with
  | 0 => .array .int
  | 1 => .array .int
  | 2 => .int
  | _ => .int
theorem nmX8 : ∀ a, a < 4 → ∀ b, b < 4 → a ≠ b → (TX8 a).2.1 ≠ (TX8 b).2.1 := by decide +kernel
theorem tyX8_ok : ∀ k, k < 4 → parseFieldDescriptor (TX8 k).2.2.1 = some (tyX8 k) := by decide +kernel
def RX9 : String := "ListenWells$Ways"
def TX9 : u_T := fun k => match k with
  | 0 => ("ListenWells$Ways", "cost", "[I", true)
  | 1 => ("ListenWells$Ways", "endsWay", "[Z", true)
  | 2 => ("ListenWells$Ways", "left", "[I", true)
  | 3 => ("ListenWells$Ways", "path", "[I", true)
  | 4 => ("ListenWells$Ways", "steps", "I", false)
  | 5 => ("ListenWells$Ways", "days", "I", false)
  | 6 => ("ListenWells$Ways", "told", "[I", true)
  | 7 => ("ListenWells$Ways", "price", "[I", true)
  | 8 => ("ListenWells$Ways", "fewest", "[I", true)
  | 9 => ("ListenWells$Ways", "cellOfShaft", "[I", true)
  | _ => ("ListenWells$Ways", "chance", "[J", true)
def tyX9 : Nat → FieldType := fun k => match k with
  | 0 => .array .int
  | 1 => .array .boolean
  | 2 => .array .int
  | 3 => .array .int
  | 4 => .int
  | 5 => .int
  | 6 => .array .int
  | 7 => .array .int
  | 8 => .array .int
  | 9 => .array .int
  | _ => .array .long
theorem nmX9 : ∀ a, a < 11 → ∀ b, b < 11 → a ≠ b → (TX9 a).2.1 ≠ (TX9 b).2.1 := by decide +kernel
theorem tyX9_ok : ∀ k, k < 11 → parseFieldDescriptor (TX9 k).2.2.1 = some (tyX9 k) := by decide +kernel
def RX10 : String := "ListenWells$World"
def TX10 : u_T := fun k => match k with
  | 0 => ("ListenWells$World", "rock", "LListenWells$Rock;", true)
  | 1 => ("ListenWells$World", "crew", "LListenWells$Crew;", true)
  | 2 => ("ListenWells$World", "folk", "LListenWells$Folk;", true)
  | 3 => ("ListenWells$World", "term", "[I", true)
  | 4 => ("ListenWells$World", "laws", "[LListenWells$Text;", true)
  | 5 => ("ListenWells$World", "lawCount", "I", false)
  | _ => ("ListenWells$World", "force", "I", false)
def tyX10 : Nat → FieldType := fun k => match k with
  | 0 => .object "ListenWells$Rock"
  | 1 => .object "ListenWells$Crew"
  | 2 => .object "ListenWells$Folk"
  | 3 => .array .int
  | 4 => .array (.object "ListenWells$Text")
  | 5 => .int
  | _ => .int
theorem nmX10 : ∀ a, a < 7 → ∀ b, b < 7 → a ≠ b → (TX10 a).2.1 ≠ (TX10 b).2.1 := by decide +kernel
theorem tyX10_ok : ∀ k, k < 7 → parseFieldDescriptor (TX10 k).2.2.1 = some (tyX10 k) := by decide +kernel
def RX11 : String := "ListenWells"
def TX11 : u_T := fun k => match k with
  | 0 => ("ListenWells", "asker", "LListenWells$Asker;", true)
  | 1 => ("ListenWells", "site", "LListenWells$Site;", true)
  | 2 => ("ListenWells", "paper", "LListenWells$Site;", true)
  | 3 => ("ListenWells", "images", "[LListenWells$World;", true)
  | 4 => ("ListenWells", "kept", "[Z", true)
  | 5 => ("ListenWells", "reader", "LListenWells$Reader;", true)
  | 6 => ("ListenWells", "ways", "LListenWells$Ways;", true)
  | 7 => ("ListenWells", "ears", "LListenWells$Ears;", true)
  | 8 => ("ListenWells", "drawnCrew", "LListenWells$Crew;", true)
  | 9 => ("ListenWells", "drawnDay", "I", false)
  | 10 => ("ListenWells", "latestMud", "I", false)
  | 11 => ("ListenWells", "stoppedAt", "I", false)
  | 12 => ("ListenWells", "refusals", "[I", true)
  | _ => ("ListenWells", "latestRefusal", "I", false)
def tyX11 : Nat → FieldType := fun k => match k with
  | 0 => .object "ListenWells$Asker"
  | 1 => .object "ListenWells$Site"
  | 2 => .object "ListenWells$Site"
  | 3 => .array (.object "ListenWells$World")
  | 4 => .array .boolean
  | 5 => .object "ListenWells$Reader"
  | 6 => .object "ListenWells$Ways"
  | 7 => .object "ListenWells$Ears"
  | 8 => .object "ListenWells$Crew"
  | 9 => .int
  | 10 => .int
  | 11 => .int
  | 12 => .array .int
  | _ => .int
theorem nmX11 : ∀ a, a < 14 → ∀ b, b < 14 → a ≠ b → (TX11 a).2.1 ≠ (TX11 b).2.1 := by decide +kernel
theorem tyX11_ok : ∀ k, k < 14 → parseFieldDescriptor (TX11 k).2.2.1 = some (tyX11 k) := by decide +kernel
def RX12 : String := "ListenWellsModel"
def TX12 : u_T := fun k => match k with
  | 0 => ("ListenWellsModel", "thrown", "I", false)
  | 1 => ("ListenWellsModel", "status", "I", false)
  | 2 => ("ListenWellsModel", "refusals", "[I", true)
  | 3 => ("ListenWellsModel", "row", "[I", true)
  | 4 => ("ListenWellsModel", "images", "[I", true)
  | 5 => ("ListenWellsModel", "isKept", "[Z", true)
  | 6 => ("ListenWellsModel", "undos", "[I", true)
  | 7 => ("ListenWellsModel", "sorts", "[I", true)
  | 8 => ("ListenWellsModel", "nUndo", "I", false)
  | 9 => ("ListenWellsModel", "undosBefore", "[I", true)
  | 10 => ("ListenWellsModel", "sortsBefore", "[I", true)
  | 11 => ("ListenWellsModel", "mud", "I", false)
  | 12 => ("ListenWellsModel", "tape", "[I", true)
  | 13 => ("ListenWellsModel", "taped", "I", false)
  | 14 => ("ListenWellsModel", "from", "I", false)
  | 15 => ("ListenWellsModel", "to", "I", false)
  | 16 => ("ListenWellsModel", "sort", "I", false)
  | 17 => ("ListenWellsModel", "worth", "J", false)
  | 18 => ("ListenWellsModel", "fault", "I", false)
  | 19 => ("ListenWellsModel", "bad", "Z", false)
  | 20 => ("ListenWellsModel", "ordered", "Z", false)
  | 21 => ("ListenWellsModel", "nClauses", "I", false)
  | 22 => ("ListenWellsModel", "nClause", "[I", true)
  | 23 => ("ListenWellsModel", "nCode", "I", false)
  | 24 => ("ListenWellsModel", "nOp", "[I", true)
  | 25 => ("ListenWellsModel", "nArg", "[I", true)
  | 26 => ("ListenWellsModel", "nLeaves", "I", false)
  | 27 => ("ListenWellsModel", "pile", "[I", true)
  | 28 => ("ListenWellsModel", "pileAt", "[I", true)
  | 29 => ("ListenWellsModel", "piled", "I", false)
  | 30 => ("ListenWellsModel", "opened", "I", false)
  | 31 => ("ListenWellsModel", "words", "[J", true)
  | 32 => ("ListenWellsModel", "orderWords", "[J", true)
  | 33 => ("ListenWellsModel", "heads", "[J", true)
  | 34 => ("ListenWellsModel", "law", "I", false)
  | 35 => ("ListenWellsModel", "set", "[J", true)
  | 36 => ("ListenWellsModel", "now", "[J", true)
  | 37 => ("ListenWellsModel", "rest", "[J", true)
  | 38 => ("ListenWellsModel", "broken", "Z", false)
  | 39 => ("ListenWellsModel", "value", "J", false)
  | 40 => ("ListenWellsModel", "sum", "J", false)
  | 41 => ("ListenWellsModel", "days", "[I", true)
  | 42 => ("ListenWellsModel", "goals", "[I", true)
  | 43 => ("ListenWellsModel", "goalDays", "[I", true)
  | 44 => ("ListenWellsModel", "goalOf", "[I", true)
  | 45 => ("ListenWellsModel", "bestGoals", "[I", true)
  | 46 => ("ListenWellsModel", "fewestDays", "I", false)
  | 47 => ("ListenWellsModel", "alike", "[I", true)
  | 48 => ("ListenWellsModel", "parts", "[J", true)
  | 49 => ("ListenWellsModel", "acts", "[J", true)
  | 50 => ("ListenWellsModel", "nOrder", "[I", true)
  | 51 => ("ListenWellsModel", "done", "I", false)
  | 52 => ("ListenWellsModel", "latest", "I", false)
  | 53 => ("ListenWellsModel", "stopped", "I", false)
  | 54 => ("ListenWellsModel", "off", "Z", false)
  | 55 => ("ListenWellsModel", "state", "J", false)
  | 56 => ("ListenWellsModel", "drawn", "[I", true)
  | 57 => ("ListenWellsModel", "drawnDay", "I", false)
  | _ => ("ListenWellsModel", "nDrawn", "I", false)
def tyX12 : Nat → FieldType := fun k => match k with
  | 0 => .int
  | 1 => .int
  | 2 => .array .int
  | 3 => .array .int
  | 4 => .array .int
  | 5 => .array .boolean
  | 6 => .array .int
  | 7 => .array .int
  | 8 => .int
  | 9 => .array .int
  | 10 => .array .int
  | 11 => .int
  | 12 => .array .int
  | 13 => .int
  | 14 => .int
  | 15 => .int
  | 16 => .int
  | 17 => .long
  | 18 => .int
  | 19 => .boolean
  | 20 => .boolean
  | 21 => .int
  | 22 => .array .int
  | 23 => .int
  | 24 => .array .int
  | 25 => .array .int
  | 26 => .int
  | 27 => .array .int
  | 28 => .array .int
  | 29 => .int
  | 30 => .int
  | 31 => .array .long
  | 32 => .array .long
  | 33 => .array .long
  | 34 => .int
  | 35 => .array .long
  | 36 => .array .long
  | 37 => .array .long
  | 38 => .boolean
  | 39 => .long
  | 40 => .long
  | 41 => .array .int
  | 42 => .array .int
  | 43 => .array .int
  | 44 => .array .int
  | 45 => .array .int
  | 46 => .int
  | 47 => .array .int
  | 48 => .array .long
  | 49 => .array .long
  | 50 => .array .int
  | 51 => .int
  | 52 => .int
  | 53 => .int
  | 54 => .boolean
  | 55 => .long
  | 56 => .array .int
  | 57 => .int
  | _ => .int
theorem nmX12 : ∀ a, a < 59 → ∀ b, b < 59 → a ≠ b → (TX12 a).2.1 ≠ (TX12 b).2.1 := by decide +kernel
theorem tyX12_ok : ∀ k, k < 59 → parseFieldDescriptor (TX12 k).2.2.1 = some (tyX12 k) := by decide +kernel
def RJ6 : String := "java/lang/Integer"
def RJ13 : String := "java/lang/Long"
def RJ0 : String := "java/lang/String"
def RJ1 : String := "java/lang/StringLatin1"
def RJ7 : String := "java/util/Arrays"
def RJ3 : String := "jdk/internal/util/Preconditions"
def RL : String := "ListenWellsLaw"
abbrev vwCl : List vw_C := [(RX0, TX0, 9), (RX1, TX1, 3), (RX2, TX2, 7), (RX3, TX3, 4), (RX4, TX4, 13), (RX5, TX5, 10), (RX6, TX6, 4), (RX7, TX7, 5), (RX8, TX8, 4), (RX9, TX9, 11), (RX10, TX10, 7), (RX11, TX11, 14), (RX12, TX12, 59)]
def gW : List Cond := lw_tbl.filter goodWord
theorem gW_t (i : Nat) {w : Cond} (h : tables_1[i]? = some w) (hg : goodWord w = true) : w ∈ gW := List.mem_filter.mpr ⟨List.mem_append_right _ (List.mem_of_getElem? h), hg⟩
theorem gW_u {l : List Cond} (hl : ∀ w ∈ l, w ∈ tables_1) (i : Nat) {w : Cond} (h : l[i]? = some w) (hg : goodWord w = true) : w ∈ gW := List.mem_filter.mpr ⟨List.mem_append_right _ (hl w (List.mem_of_getElem? h)), hg⟩
theorem gW_p (i : Nat) {q : MethodName × Nat} (h : lw_privs[i]? = some q) : Cond.selects q.1.cls q.1 q.1 ∈ gW := List.mem_filter.mpr ⟨List.mem_append_left _ (List.mem_map.mpr ⟨q, List.mem_of_getElem? h, rfl⟩), rfl⟩
theorem gW_l {args : Array Value} {s : State} (h : ∀ w ∈ lw_tbl, w.before args s = true) : ∀ w ∈ gW, w.before args s = true := fun w hw => h w (List.mem_filter.mp hw).1
theorem gI {c : Cond} (h : c ∈ gW) : GoodIn gW (c :: gW) := fun w hw => (List.mem_cons.mp hw).elim (fun e => by rw [e]; exact ⟨h, good_of_word (List.mem_filter.mp h).2⟩) (fun hw => ⟨hw, good_of_word (List.mem_filter.mp hw).2⟩)
theorem gW_all {ps : List Nat} {ws : List Cond} (h : ps.map (fun i => tables_1[i]?) = ws.map some) (hg : ws.all goodWord = true) : ∀ w ∈ ws, w ∈ gW := by
  intro w hw
  have h1 : some w ∈ ps.map (fun i => tables_1[i]?) := by rw [h]; exact List.mem_map.mpr ⟨w, hw, rfl⟩
  obtain ⟨i, -, hi⟩ := List.mem_map.mp h1
  exact gW_t i hi (List.all_eq_true.mp hg w hw)
theorem inX0 : ∀ w ∈ u_ws RX0 TX0 9, w ∈ gW := gW_all (ps := [46, 48, 50, 52, 54, 56, 58, 60, 62]) (by decide +kernel) (by decide +kernel)
theorem inX1 : ∀ w ∈ u_ws RX1 TX1 3, w ∈ gW := gW_all (ps := [133, 135, 137]) (by decide +kernel) (by decide +kernel)
theorem inX2 : ∀ w ∈ u_ws RX2 TX2 7, w ∈ gW := gW_all (ps := [274, 276, 278, 280, 282, 284, 286]) (by decide +kernel) (by decide +kernel)
theorem inX3 : ∀ w ∈ u_ws RX3 TX3 4, w ∈ gW := gW_all (ps := [435, 437, 439, 441]) (by decide +kernel) (by decide +kernel)
theorem inX4 : ∀ w ∈ u_ws RX4 TX4 13, w ∈ gW := gW_all (ps := [183, 185, 187, 189, 191, 193, 195, 197, 199, 201, 203, 205, 207]) (by decide +kernel) (by decide +kernel)
theorem inX5 : ∀ w ∈ u_ws RX5 TX5 10, w ∈ gW := gW_all (ps := [360, 362, 364, 366, 368, 370, 372, 374, 376, 378]) (by decide +kernel) (by decide +kernel)
theorem inX6 : ∀ w ∈ u_ws RX6 TX6 4, w ∈ gW := gW_all (ps := [102, 104, 106, 108]) (by decide +kernel) (by decide +kernel)
theorem inX7 : ∀ w ∈ u_ws RX7 TX7 5, w ∈ gW := gW_all (ps := [297, 299, 301, 303, 305]) (by decide +kernel) (by decide +kernel)
theorem inX8 : ∀ w ∈ u_ws RX8 TX8 4, w ∈ gW := gW_all (ps := [337, 339, 341, 343]) (by decide +kernel) (by decide +kernel)
theorem inX9 : ∀ w ∈ u_ws RX9 TX9 11, w ∈ gW := gW_all (ps := [402, 404, 406, 408, 410, 412, 414, 416, 418, 420, 422]) (by decide +kernel) (by decide +kernel)
theorem inX10 : ∀ w ∈ u_ws RX10 TX10 7, w ∈ gW := gW_all (ps := [238, 240, 242, 244, 246, 248, 250]) (by decide +kernel) (by decide +kernel)
theorem inX11 : ∀ w ∈ u_ws RX11 TX11 14, w ∈ gW := gW_all (ps := [460, 462, 464, 466, 468, 470, 472, 474, 476, 478, 480, 482, 484, 486]) (by decide +kernel) (by decide +kernel)
theorem inX12 : ∀ w ∈ u_ws RX12 TX12 59, w ∈ gW := gW_all (ps := [1332, 1334, 1336, 1338, 1340, 1342, 1344, 1346, 1348, 1350, 1352, 1354, 1356, 1358, 1360, 1362, 1364, 1366, 1368, 1370, 1372, 1374, 1376, 1378, 1380, 1382, 1384, 1386, 1388, 1390, 1392, 1394, 1396, 1398, 1400, 1402, 1404, 1406, 1408, 1410, 1412, 1414, 1416, 1418, 1420, 1422, 1424, 1426, 1428, 1430, 1432, 1434, 1436, 1438, 1440, 1442, 1444, 1446, 1448]) (by decide +kernel) (by decide +kernel)
theorem ar_long : Cond.arrayClass .long ∈ gW := gW_u tb_1 65 (by rfl) (by decide +kernel)
theorem ar_int : Cond.arrayClass .int ∈ gW := gW_u tb_1 111 (by rfl) (by decide +kernel)
theorem ar_boolean : Cond.arrayClass .boolean ∈ gW := gW_u tb_2 106 (by rfl) (by decide +kernel)
def nW : List Cond := [.methodLinkNest RX11 9 ⟨RX0, "<init>", "()V"⟩ RX11, .methodLinkNest RX7 11 ⟨RX10, "<init>", "()V"⟩ RX11, .methodLinkNest RX10 20 ⟨RX1, "<init>", "()V"⟩ RX11, .methodLinkNest RX10 27 ⟨RX4, "<init>", "()V"⟩ RX11, .methodLinkNest RX7 20 ⟨RX2, "<init>", "()V"⟩ RX11, .methodLinkNest RX11 30 ⟨RX10, "<init>", "()V"⟩ RX11, .methodLinkNest RX11 41 ⟨RX5, "<init>", "()V"⟩ RX11, .methodLinkNest RX11 48 ⟨RX9, "<init>", "()V"⟩ RX11, .methodLinkNest RX11 62 ⟨RX1, "<init>", "()V"⟩ RX11, .methodLinkNest RX0 40 ⟨RX11, "nearest", "(III)I"⟩ RX11, .methodLinkNest RX7 46 ⟨RX11, "isWithin", "(II)Z"⟩ RX11, .methodLinkNest RX3 53 ⟨RX11, "stepsTo", "(II)I"⟩ RX11, .methodLinkNest RX3 126 ⟨RX11, "nearest", "(III)I"⟩ RX11]
theorem nW_in : ∀ w ∈ nW, w ∈ lw_tbl := fun w hw => List.mem_append_right _ ((show ∀ w ∈ nW, w ∈ tables_1 from by decide +kernel) w hw)
end
section
/-! the common pieces of the walks: one list of words, one list of array classes -/
abbrev tyL (cs : Nat → ClassId) : List (ClassId × FieldType) := [(cs 0, .int), (cs 1, .long), (cs 2, .boolean), (cs 3, .object "ListenWells$Text"), (cs 4, .object "ListenWells$World")]
def NW (U : State) : Prop := (∀ w ∈ nW, va_Nw w U) ∧ va_AO "ListenWells$Text" U ∧ va_AO "ListenWells$World" U
theorem NW.warm {s U : State} (hW : s.WarmedH U.vm) (h : NW s) : NW U := by
  refine ⟨fun w hw => ?_, h.2.1.moved hW.alike, h.2.2.moved hW.alike⟩
  have h1 := h.1 w hw
  simp only [nW, List.mem_cons, List.not_mem_nil, or_false] at hw
  rcases hw with rfl | rfl | rfl | rfl | rfl | rfl | rfl | rfl | rfl | rfl | rfl | rfl | rfl <;> exact va_Nw.warmM hW h1
theorem NW.calling {U : State} {g : JFrame} {mk : MethodId} {a : Array Value} (h : NW U) : NW (U.calling g mk a) := by
  refine ⟨fun w hw => ?_, h.2.1.moved (Vm.Alike.refl U.vm), h.2.2.moved (Vm.Alike.refl U.vm)⟩
  have h1 := h.1 w hw
  refine va_Nw.same (u := U) (U := U.calling g mk a) ?_ rfl h1
  simp only [nW, List.mem_cons, List.not_mem_nil, or_false] at hw
  rcases hw with rfl | rfl | rfl | rfl | rfl | rfl | rfl | rfl | rfl | rfl | rfl | rfl | rfl <;> rfl
/-- a method₉s start: its cells, apart, the heap₉s size -/
def Pre (G : va_G) (cs : Nat → ClassId) (ws : va_W) (sz : Nat) (U : State) : Prop := U.heap.size = sz ∧ va_P G vwCl ws U.heap ∧ va_K G vwCl (tyL cs) U ∧ va_D (fun _ => True) ws ∧ NW U
/-- the same for a method that only reads -/
def PrS (G : va_G) (cs : Nat → ClassId) (ws : va_W) (U : State) : Prop := va_P G vwCl ws U.heap ∧ va_K G vwCl (tyL cs) U ∧ NW U
/-- a method₉s end -/
def Aft (G : va_G) (cs : Nat → ClassId) (A : Nat → Prop) (ws : va_W) (t : State) : Prop := va_P G vwCl ws t.heap ∧ va_K G vwCl (tyL cs) t ∧ va_D A ws
theorem Pre.blind {G : va_G} {cs : Nat → ClassId} {ws : va_W} {sz : Nat} {av : List Value} : FrameBlind (va_Pc av (Pre G cs ws sz)) := fun a U g mk q => by
  obtain ⟨q0, q1, qP, qK, qD, qN⟩ := q
  exact ⟨q0, q1, qP, va_K.moved (u := U) (U := U.calling g mk a) (Vm.Alike.refl U.vm) qK, qD, qN.calling⟩
theorem PrS.blind {G : va_G} {cs : Nat → ClassId} {ws : va_W} {av : List Value} : FrameBlind (va_Pc av (PrS G cs ws)) := fun a U g mk q => by
  obtain ⟨q0, qP, qK, qN⟩ := q
  exact ⟨q0, qP, va_K.moved (u := U) (U := U.calling g mk a) (Vm.Alike.refl U.vm) qK, qN.calling⟩
theorem Pre.to {G : va_G} {cs : Nat → ClassId} {wc : va_W} {A : Nat → Prop} {s U : State} {H : Heap} (hU : U.heap = H) (hW : s.WarmedH U.vm) (hP : va_P G vwCl wc H) (hK : va_K G vwCl (tyL cs) s) (hD : va_D A wc) (hN : NW s) : Pre G cs wc H.size U :=
  ⟨by rw [hU], by rw [hU]; exact hP, va_K.moved hW.alike hK, hD.weaken (fun _ _ _ _ => trivial), hN.warm hW⟩
theorem PrS.to {G : va_G} {cs : Nat → ClassId} {wc : va_W} {s U : State} {H : Heap} (hU : U.heap = H) (hW : s.WarmedH U.vm) (hP : va_P G vwCl wc H) (hK : va_K G vwCl (tyL cs) s) (hN : NW s) : PrS G cs wc U :=
  ⟨by rw [hU]; exact hP, va_K.moved hW.alike hK, hN.warm hW⟩
theorem fm_of {ws wc : va_W} {is : List Nat} (h : is.map (fun i => ws[i]?) = wc.map some) : is.filterMap (fun i => ws[i]?) = wc := by
  have h1 : is.filterMap (fun i => ws[i]?) = (is.map (fun i => ws[i]?)).filterMap id := by rw [List.filterMap_map]; rfl
  rw [h1, h]
  simp
theorem va_P.pick {D : va_G} {cl : List vw_C} {ws wc : va_W} {H : Heap} (h : va_P D cl ws H) {is : List Nat} (hs : is.map (fun i => ws[i]?) = wc.map some) : va_P D cl wc H := h.sub is (fm_of hs)
section CW
variable {R : Room} {s : State} {args : Array Value} {own C : String} {index : Nat} {y : MethodName} {bytes : ByteArray} {maxL : Nat} {ret : Option FieldType} {rm : Room} {mc ms : Nat}
abbrev okD (y : MethodName) (n : Nat) : Prop := y.cls ≠ "java/lang/invoke/MethodHandle" ∧ y.cls ≠ "java/lang/invoke/VarHandle" ∧ (parseMethodDescriptor y.desc).map (fun d => d.parameters.length) = some n
theorem cV (n : Nat) (ht : ∀ w ∈ gW, w.before args s = true) (h1 : Cond.methodLink own index y ∈ gW) (h2 : Cond.instanceMethod y ∈ gW) (h3 : Cond.selects C y y ∈ gW) (h4 : Cond.initialized y.cls ∈ gW) (h5 : Cond.code y bytes maxL ret ∈ gW) (hd : okD y n) (hrc : rm.cells = mc) (hrs : rm.slots = ms) (hR : rm.frames + 1 ≤ R.frames ∧ 8 + (maxL + 11) + rm.locals ≤ R.locals) : CallW R s args own C index y bytes maxL ret (Cond.code y bytes maxL ret :: gW) rm mc ms n :=
  ⟨callB_of n ht (gI h5) rfl hrc hrs (ht _ h4) (ht _ h1) hd hR, ht _ h2, ht _ h3⟩
theorem cS (n : Nat) (ht : ∀ w ∈ gW, w.before args s = true) (h1 : Cond.methodLink own index y ∈ gW) (h2 : Cond.static y ∈ gW) (h4 : Cond.initialized y.cls ∈ gW) (h5 : Cond.code y bytes maxL ret ∈ gW) (hd : okD y n) (hrc : rm.cells = mc) (hrs : rm.slots = ms) (hR : rm.frames + 1 ≤ R.frames ∧ 8 + (maxL + 11) + rm.locals ≤ R.locals) : CallB R s args own index y bytes maxL ret (Cond.code y bytes maxL ret :: gW) rm mc ms n ∧ (Cond.static y).before args s = true :=
  ⟨callB_of n ht (gI h5) rfl hrc hrs (ht _ h4) (ht _ h1) hd hR, ht _ h2⟩
theorem cI (n : Nat) (ht : ∀ w ∈ gW, w.before args s = true) (h1 : Cond.methodLink own index y ∈ gW) (h2 : Cond.instanceMethod y ∈ gW) (h4 : Cond.initialized y.cls ∈ gW) (h5 : Cond.code y bytes maxL none ∈ gW) (hy : y.name = "<init>") (hd : okD y n) (hrc : rm.cells = mc) (hrs : rm.slots = ms) (hR : rm.frames + 1 ≤ R.frames ∧ 8 + (maxL + 11) + rm.locals ≤ R.locals) : CallB R s args own index y bytes maxL none (Cond.code y bytes maxL none :: gW) rm mc ms n ∧ y.name = "<init>" ∧ (Cond.instanceMethod y).before args s = true :=
  ⟨callB_of n ht (gI h5) rfl hrc hrs (ht _ h4) (ht _ h1) hd hR, hy, ht _ h2⟩
theorem cSN {host : String} (n : Nat) (ht : ∀ w ∈ gW, w.before args s = true) (hN : NW s) (h1 : Cond.methodLinkNest own index y host ∈ nW) (h2 : Cond.static y ∈ gW) (h4 : Cond.initialized y.cls ∈ gW) (h5 : Cond.code y bytes maxL ret ∈ gW) (hd : okD y n) (hrc : rm.cells = mc) (hrs : rm.slots = ms) (hR : rm.frames + 1 ≤ R.frames ∧ 8 + (maxL + 11) + rm.locals ≤ R.locals) : va_CN R s args own index y host bytes maxL ret (Cond.code y bytes maxL ret :: gW) rm mc ms n ∧ (Cond.static y).before args s = true ∧ True :=
  ⟨va_cnB n ht (gI h5) rfl hrc hrs (hN.1 _ h1) (ht _ h4) hd hR, ht _ h2, trivial⟩
theorem cIN {host : String} (n : Nat) (ht : ∀ w ∈ gW, w.before args s = true) (hN : NW s) (h1 : Cond.methodLinkNest own index y host ∈ nW) (h2 : Cond.instanceMethod y ∈ gW) (h4 : Cond.initialized y.cls ∈ gW) (h5 : Cond.code y bytes maxL none ∈ gW) (hy : y.name = "<init>") (hd : okD y n) (hrc : rm.cells = mc) (hrs : rm.slots = ms) (hR : rm.frames + 1 ≤ R.frames ∧ 8 + (maxL + 11) + rm.locals ≤ R.locals) : va_CN R s args own index y host bytes maxL none (Cond.code y bytes maxL none :: gW) rm mc ms n ∧ y.name = "<init>" ∧ (Cond.instanceMethod y).before args s = true :=
  ⟨va_cnB n ht (gI h5) rfl hrc hrs (hN.1 _ h1) (ht _ h4) hd hR, hy, ht _ h2⟩
end CW
section MK
variable {p : Program} {l : Launch} {e : Env} {R : Room} {s : State} {m : MethodId} {args : Array Value} {below : List Frame} {meth : Method} {c : Code} {H H0 : Heap} {locs : List Loc} {cells slots : Nat} {Q : State → Prop}
variable {y : MethodName} {bytes cc : ByteArray} {maxL nL mc ms n index : Nat} {ret : Option FieldType} {ws wcs : List Cond} {rm : Room} {Qc : Array Value → State → Outcome → State → Prop} {free : Addr → Prop} {own C : String} {b : Addr} {As rest st0 : List Value} {pc : Nat} {ls : Array Slot}
variable {G : va_G} {cs : Nat → ClassId} {wv wc wr : va_W} {A A0 : Nat → Prop} {fs : List Value} {T : u_T} {NC : Nat}
/-- a call of an instance method that may write -/
theorem mkV (F : CallFix p m c cc nL s args gW own) (hN : NW s) (hK : va_K G vwCl (tyL cs) s) (hP : va_P G vwCl wv H) (hD : va_D A wv) (hM : Met l y wcs rm (va_Pc (Value.ref b :: As) (Pre G cs wc H.size)) Qc mc ms free) (isC : List Nat) (hC : isC.map (fun i => wv[i]?) = wc.map some) (hn : va_nd isC = true) (q0 ci : Nat) (he : wc[q0]? = some (b, Sum.inr (ci, fs))) (hc : vwCl[ci]? = some (C, T, NC))
    (cw : CallW R s args own C index y bytes maxL ret wcs rm mc ms n) (ha : As.length = n) (hsz : ls.size = nL) (hst : st0 = As.reverse ++ .ref b :: rest) (hW : (rest.map fun v => v.category).sum ≤ 8) (hdg : decode cc pc = .ok (.invokevirtual index, 3)) (hf : cells + mc ≤ R.cells ∧ slots + ms ≤ R.slots) :
    va_Run p l e R s m args below meth c H locs cells slots mc ms (F0 m pc ls st0) rest (Qc (Value.ref b :: As).toArray) free :=
  va_runV F hM cw ⟨Pre.blind, va_recv hK (hP.pick hC) hc he, fun _ hU hW => ⟨rfl, Pre.to hU hW (hP.pick hC) hK (hD.sub isC hn hC) hN⟩⟩ rfl ha hsz hst (lv_room hW) hdg hf
/-- a call of an instance method that only reads -/
theorem mkVr (F : CallFix p m c cc nL s args gW own) (hN : NW s) (hK : va_K G vwCl (tyL cs) s) (hP : va_P G vwCl wv H) (hM : Met l y wcs rm (va_Pc (Value.ref b :: As) (PrS G cs wc)) Qc mc ms free) (isC : List Nat) (hC : isC.map (fun i => wv[i]?) = wc.map some) (q0 ci : Nat) (he : wc[q0]? = some (b, Sum.inr (ci, fs))) (hc : vwCl[ci]? = some (C, T, NC))
    (cw : CallW R s args own C index y bytes maxL ret wcs rm mc ms n) (ha : As.length = n) (hsz : ls.size = nL) (hst : st0 = As.reverse ++ .ref b :: rest) (hW : (rest.map fun v => v.category).sum ≤ 8) (hdg : decode cc pc = .ok (.invokevirtual index, 3)) (hf : cells + mc ≤ R.cells ∧ slots + ms ≤ R.slots) :
    CallRun p l e R s m args below meth c H locs cells slots mc ms (F0 m pc ls st0) rest (Qc (Value.ref b :: As).toArray) free :=
  va_Run.run (va_runV F hM cw ⟨PrS.blind, va_recv hK (hP.pick hC) hc he, fun _ hU hW => ⟨rfl, PrS.to hU hW (hP.pick hC) hK hN⟩⟩ rfl ha hsz hst (lv_room hW) hdg hf)
/-- a call of a static method that may write -/
theorem mkS (F : CallFix p m c cc nL s args gW own) (hN : NW s) (hK : va_K G vwCl (tyL cs) s) (hP : va_P G vwCl wv H) (hD : va_D A wv) (hM : Met l y wcs rm (va_Pc As (Pre G cs wc H.size)) Qc mc ms free) (isC : List Nat) (hC : isC.map (fun i => wv[i]?) = wc.map some) (hn : va_nd isC = true)
    (cw : CallB R s args own index y bytes maxL ret wcs rm mc ms n ∧ (Cond.static y).before args s = true) (ha : As.length = n) (hsz : ls.size = nL) (hst : st0 = As.reverse ++ rest) (hW : (rest.map fun v => v.category).sum ≤ 8) (hdg : decode cc pc = .ok (.invokestatic index, 3)) (hf : cells + mc ≤ R.cells ∧ slots + ms ≤ R.slots) :
    va_Run p l e R s m args below meth c H locs cells slots mc ms (F0 m pc ls st0) rest (Qc As.toArray) free :=
  va_runS F hM cw ⟨Pre.blind, fun _ hU hW => ⟨rfl, Pre.to hU hW (hP.pick hC) hK (hD.sub isC hn hC) hN⟩⟩ rfl ha hsz hst (lv_room hW) hdg hf
/-- a call of a static method that knows no cell -/
theorem mkSr (F : CallFix p m c cc nL s args gW own) (hN : NW s) (hK : va_K G vwCl (tyL cs) s)
    (hM : Met l y wcs rm (va_Pc As (PrS G cs [])) Qc mc ms free) (cw : CallB R s args own index y bytes maxL ret wcs rm mc ms n ∧ (Cond.static y).before args s = true) (ha : As.length = n) (hsz : ls.size = nL) (hst : st0 = As.reverse ++ rest) (hW : (rest.map fun v => v.category).sum ≤ 8) (hdg : decode cc pc = .ok (.invokestatic index, 3)) (hf : cells + mc ≤ R.cells ∧ slots + ms ≤ R.slots) :
    CallRun p l e R s m args below meth c H locs cells slots mc ms (F0 m pc ls st0) rest (Qc As.toArray) free :=
  va_Run.run (va_runS F hM cw ⟨PrS.blind, fun _ hU hW => ⟨rfl, PrS.to hU hW (fun k q h => by simp at h) hK hN⟩⟩ rfl ha hsz hst (lv_room hW) hdg hf)
/-- the same through a nest₉s link -/
theorem mkSN {host : String} (F : CallFix p m c cc nL s args gW own) (hN : NW s) (hK : va_K G vwCl (tyL cs) s)
    (hM : Met l y wcs rm (va_Pc As (PrS G cs [])) Qc mc ms free) (cw : va_CN R s args own index y host bytes maxL ret wcs rm mc ms n ∧ (Cond.static y).before args s = true ∧ True) (ha : As.length = n) (hsz : ls.size = nL) (hst : st0 = As.reverse ++ rest) (hW : (rest.map fun v => v.category).sum ≤ 8) (hdg : decode cc pc = .ok (.invokestatic index, 3)) (hf : cells + mc ≤ R.cells ∧ slots + ms ≤ R.slots) :
    CallRun p l e R s m args below meth c H locs cells slots mc ms (F0 m pc ls st0) rest (Qc As.toArray) free :=
  va_Run.run (va_runSN F hM cw ⟨PrS.blind, fun _ hU hW => ⟨rfl, PrS.to hU hW (fun k q h => by simp at h) hK hN⟩⟩ rfl ha hsz hst (lv_room hW) hdg hf)
/-- a call of a constructor -/
theorem mkI (F : CallFix p m c cc nL s args gW own) (hN : NW s) (hK : va_K G vwCl (tyL cs) s) (hP : va_P G vwCl wv H) (hD : va_D A wv) (hM : Met l y wcs rm (va_Pc (Value.ref b :: As) (Pre G cs wc H.size)) Qc mc ms free) (isC : List Nat) (hC : isC.map (fun i => wv[i]?) = wc.map some) (hn : va_nd isC = true)
    (cw : CallB R s args own index y bytes maxL none wcs rm mc ms n ∧ y.name = "<init>" ∧ (Cond.instanceMethod y).before args s = true) (ha : As.length = n) (hsz : ls.size = nL) (hst : st0 = As.reverse ++ .ref b :: rest) (hW : (rest.map fun v => v.category).sum ≤ 8) (hdg : decode cc pc = .ok (.invokespecial index, 3)) (hf : cells + mc ≤ R.cells ∧ slots + ms ≤ R.slots) :
    va_Run p l e R s m args below meth c H locs cells slots mc ms (F0 m pc ls st0) rest (Qc (Value.ref b :: As).toArray) free :=
  va_runI F hM cw ⟨Pre.blind, fun _ hU hW => ⟨rfl, Pre.to hU hW (hP.pick hC) hK (hD.sub isC hn hC) hN⟩⟩ rfl ha hsz hst (lv_room hW) hdg hf
theorem mkIN {host : String} (F : CallFix p m c cc nL s args gW own) (hN : NW s) (hK : va_K G vwCl (tyL cs) s) (hP : va_P G vwCl wv H) (hD : va_D A wv) (hM : Met l y wcs rm (va_Pc (Value.ref b :: As) (Pre G cs wc H.size)) Qc mc ms free) (isC : List Nat) (hC : isC.map (fun i => wv[i]?) = wc.map some) (hn : va_nd isC = true)
    (cw : va_CN R s args own index y host bytes maxL none wcs rm mc ms n ∧ y.name = "<init>" ∧ (Cond.instanceMethod y).before args s = true) (ha : As.length = n) (hsz : ls.size = nL) (hst : st0 = As.reverse ++ .ref b :: rest) (hW : (rest.map fun v => v.category).sum ≤ 8) (hdg : decode cc pc = .ok (.invokespecial index, 3)) (hf : cells + mc ≤ R.cells ∧ slots + ms ≤ R.slots) :
    va_Run p l e R s m args below meth c H locs cells slots mc ms (F0 m pc ls st0) rest (Qc (Value.ref b :: As).toArray) free :=
  va_runIN F hM cw ⟨Pre.blind, fun _ hU hW => ⟨rfl, Pre.to hU hW (hP.pick hC) hK (hD.sub isC hn hC) hN⟩⟩ rfl ha hsz hst (lv_room hW) hdg hf
variable {Sg : Type} {w1 : Sg → va_W} {a : Array Value}
/-- behind a call that may write: what came back beside the rest -/
theorem mi {post : Int32 → Sg → Prop} (hr : va_Run p l e R s m args below meth c H locs cells slots mc ms (F0 m pc ls st0) rest (va_Qi post (fun u t => Aft G cs (va_A wc H.size) (w1 u) t) (va_A wc H.size) a) (va_A wc H.size)) (hP : va_P G vwCl wv H) (hD : va_D A0 wv) (hS : va_S A0 H0 H locs) (hA : ∀ q, H0.size ≤ q → A0 q) (isC isR : List Nat) (hC : isC.map (fun i => wv[i]?) = wc.map some) (hR : isR.map (fun i => wv[i]?) = wr.map some) (hn : va_nd isR = true) (hdis : ∀ i ∈ isR, i ∉ isC)
    (kk : ∀ (r : Int32) (u : Sg) (H1 : Heap) (locs1 : List Loc), post r u → va_P G vwCl (wr ++ w1 u) H1 → va_D A0 (wr ++ w1 u) → va_S A0 H0 H1 locs1 → W p l e R s m args below meth c H1 locs1 (cells + mc) (slots + ms) Q (F0 m (pc + 3) ls (Value.int r :: rest))) : W p l e R s m args below meth c H locs cells slots Q (F0 m pc ls st0) := by
  have hF := va_free (wc := wc) hD hS hA isC hC
  refine va_calli hr hS (fun q _ h => hF q h) hF (fun r u t H1 locs1 ht hvm hw hB hz hk hS1 => ?_)
  obtain ⟨hP1, -, hD1⟩ := hB
  rw [ht] at hP1
  obtain ⟨hP2, hD2⟩ := va_join hP hD isC isR hC hR hn hdis hk hF hP1 hD1
  exact kk r u H1 locs1 hw hP2 hD2 hS1
theorem ml {post : Int64 → Sg → Prop} (hr : va_Run p l e R s m args below meth c H locs cells slots mc ms (F0 m pc ls st0) rest (va_Ql post (fun u t => Aft G cs (va_A wc H.size) (w1 u) t) (va_A wc H.size) a) (va_A wc H.size)) (hP : va_P G vwCl wv H) (hD : va_D A0 wv) (hS : va_S A0 H0 H locs) (hA : ∀ q, H0.size ≤ q → A0 q) (isC isR : List Nat) (hC : isC.map (fun i => wv[i]?) = wc.map some) (hR : isR.map (fun i => wv[i]?) = wr.map some) (hn : va_nd isR = true) (hdis : ∀ i ∈ isR, i ∉ isC)
    (kk : ∀ (r : Int64) (u : Sg) (H1 : Heap) (locs1 : List Loc), post r u → va_P G vwCl (wr ++ w1 u) H1 → va_D A0 (wr ++ w1 u) → va_S A0 H0 H1 locs1 → W p l e R s m args below meth c H1 locs1 (cells + mc) (slots + ms) Q (F0 m (pc + 3) ls (Value.long r :: rest))) : W p l e R s m args below meth c H locs cells slots Q (F0 m pc ls st0) := by
  have hF := va_free (wc := wc) hD hS hA isC hC
  refine va_calll hr hS (fun q _ h => hF q h) hF (fun r u t H1 locs1 ht hvm hw hB hz hk hS1 => ?_)
  obtain ⟨hP1, -, hD1⟩ := hB
  rw [ht] at hP1
  obtain ⟨hP2, hD2⟩ := va_join hP hD isC isR hC hR hn hdis hk hF hP1 hD1
  exact kk r u H1 locs1 hw hP2 hD2 hS1
theorem mv {post : Sg → Prop} (hr : va_Run p l e R s m args below meth c H locs cells slots mc ms (F0 m pc ls st0) rest (va_Qv post (fun u t => Aft G cs (va_A wc H.size) (w1 u) t) (va_A wc H.size) a) (va_A wc H.size)) (hP : va_P G vwCl wv H) (hD : va_D A0 wv) (hS : va_S A0 H0 H locs) (hA : ∀ q, H0.size ≤ q → A0 q) (isC isR : List Nat) (hC : isC.map (fun i => wv[i]?) = wc.map some) (hR : isR.map (fun i => wv[i]?) = wr.map some) (hn : va_nd isR = true) (hdis : ∀ i ∈ isR, i ∉ isC)
    (kk : ∀ (u : Sg) (H1 : Heap) (locs1 : List Loc), post u → va_P G vwCl (wr ++ w1 u) H1 → va_D A0 (wr ++ w1 u) → va_S A0 H0 H1 locs1 → W p l e R s m args below meth c H1 locs1 (cells + mc) (slots + ms) Q (F0 m (pc + 3) ls rest)) : W p l e R s m args below meth c H locs cells slots Q (F0 m pc ls st0) := by
  have hF := va_free (wc := wc) hD hS hA isC hC
  refine va_callv hr hS (fun q _ h => hF q h) hF (fun u t H1 locs1 ht hvm hw hB hz hk hS1 => ?_)
  obtain ⟨hP1, -, hD1⟩ := hB
  rw [ht] at hP1
  obtain ⟨hP2, hD2⟩ := va_join hP hD isC isR hC hR hn hdis hk hF hP1 hD1
  exact kk u H1 locs1 hw hP2 hD2 hS1
/-- arrays are made: of the one class of their kind -/
theorem cA_u {G : va_G} {cA : ClassId} {ty : FieldType} {k : Nat} (h : va_K G vwCl (tyL cs ++ [(cA, ty)]) s) (hk : (tyL cs)[k]? = some (cs k, ty)) : cA = cs k := by
  have h5 := (h.2 5 (cA, ty) rfl).2
  have hk2 := (h.2 k (cs k, ty) (by
    have hl : k < (tyL cs).length := (List.getElem?_eq_some_iff.mp hk).1
    rw [List.getElem?_append_left hl]; exact hk)).2
  cases ty with
  | object C =>
    obtain ⟨_, _, _, _, _, e1⟩ := h5
    obtain ⟨_, _, _, _, _, e2⟩ := hk2
    exact Option.some.inj (e1.symm.trans e2)
  | _ => exact Option.some.inj (h5.symm.trans hk2)
end MK
/-- a world said anew, of the picture and of the apartness at once -/
theorem PD_as {G : va_G} {cl : List vw_C} {A : Nat → Prop} {L0 : va_W} {H : Heap} (hP : va_P G cl L0 H) (L : va_W) (e : L0 = L) (hD : va_D A L0) : va_P G cl L H ∧ va_D A L := by subst e; exact ⟨hP, hD⟩
theorem PD_pk {G : va_G} {cl : List vw_C} {A : Nat → Prop} {ws : va_W} {H : Heap} (hP : va_P G cl ws H) (hD : va_D A ws) (L : va_W) (is : List Nat) (hn : va_nd is = true) (hs : is.map (fun i => ws[i]?) = L.map some) : va_P G cl L H ∧ va_D A L := ⟨hP.pick hs, hD.sub is hn hs⟩
end
section
theorem ok_t {c A B : Prop} {d : Decidable c} (h : @ite Prop c d A B) (hc : c) : A := by rw [if_pos hc] at h; exact h
theorem ok_f {c A B : Prop} {d : Decidable c} (h : @ite Prop c d A B) (hc : ¬ c) : B := by rw [if_neg hc] at h; exact h
/-- where ways come together: k is what is wanted there -/
def jn {α : Type} (k : α) (F : α → Prop) : Prop := F k
theorem ex_j {α : Type} {k : α} {F : α → Prop} (h : jn k F) : ∃ z, z = k ∧ F z := ⟨k, rfl, h⟩
theorem nz01 {a : Int32} (h : a = 0 ∨ a = 1) : narrow .boolean (Value.int a) = Value.int a := by
  rcases h with h | h <;> rw [h] <;> rfl
theorem nz10 {a : Int32} (h : narrow .boolean (Value.int a) = Value.int a) : a = 0 ∨ a = 1 := by
  have h2 : (Value.int (a &&& 1) : Value) = Value.int a := h
  injection h2 with h3
  have h4 : (a &&& 1).toBitVec.toNat = a.toBitVec.toNat := by rw [h3]
  have h5 : (a &&& 1).toBitVec.toNat = a.toBitVec.toNat % 2 := by
    rw [Int32.toBitVec_and, BitVec.toNat_and]
    exact Nat.and_one_is_mod _
  have h6 : a.toBitVec.toNat = 0 ∨ a.toBitVec.toNat = 1 := by omega
  rcases h6 with h6 | h6
  · exact Or.inl (Int32.toBitVec_inj.mp (BitVec.eq_of_toNat_eq h6))
  · exact Or.inr (Int32.toBitVec_inj.mp (BitVec.eq_of_toNat_eq h6))
section JN
variable {p : Program} {l : Launch} {e : Env} {R : Room} {s : State} {m : MethodId} {args : Array Value} {below : List Frame} {meth : Method} {c : Code} {H : Heap} {locs : List Loc} {cells slots : Nat} {QX : State → Prop} {g : JFrame}
theorem jnM {G : va_G} {A : Nat → Prop} {nL : Nat} {α : Type} {k : α → Prop} {J : Nat} (WS : α → va_W) (LV : α → List (Nat × Value)) (ST : α → List Value) (a : ∀ y : α, k y → ∀ (H : Heap) (locs : List Loc) (ls : Array Slot), va_P G vwCl (WS y) H → va_D A (WS y) → va_S A s.heap H locs → lv_has ls nL (LV y) → W p l e R s m args below meth c H locs cells slots QX (F0 m J ls (ST y))) (b : (∀ y : α, k y → ∀ (H : Heap) (locs : List Loc) (ls : Array Slot), va_P G vwCl (WS y) H → va_D A (WS y) → va_S A s.heap H locs → lv_has ls nL (LV y) → W p l e R s m args below meth c H locs cells slots QX (F0 m J ls (ST y))) → W p l e R s m args below meth c H locs cells slots QX g) : W p l e R s m args below meth c H locs cells slots QX g := b a
theorem jnS {nL : Nat} {α : Type} {k : α → Prop} {J : Nat} (LV : α → List (Nat × Value)) (ST : α → List Value) (a : ∀ y : α, k y → ∀ (ls : Array Slot), lv_has ls nL (LV y) → W p l e R s m args below meth c H locs cells slots QX (F0 m J ls (ST y))) (b : (∀ y : α, k y → ∀ (ls : Array Slot), lv_has ls nL (LV y) → W p l e R s m args below meth c H locs cells slots QX (F0 m J ls (ST y))) → W p l e R s m args below meth c H locs cells slots QX g) : W p l e R s m args below meth c H locs cells slots QX g := b a
end JN
section UN
def un2 {α0 α1 : Type} (f : α0 → α1 → Prop) : α0 × α1 → Prop := fun p => f p.1 p.2
theorem un2_e {α0 α1 : Type} {f : α0 → α1 → Prop} {a0 : α0} {a1 : α1} (h : un2 f (a0, a1)) : f a0 a1 := h
def un3 {α0 α1 α2 : Type} (f : α0 → α1 → α2 → Prop) : α0 × α1 × α2 → Prop := fun p => f p.1 p.2.1 p.2.2
theorem un3_e {α0 α1 α2 : Type} {f : α0 → α1 → α2 → Prop} {a0 : α0} {a1 : α1} {a2 : α2} (h : un3 f (a0, a1, a2)) : f a0 a1 a2 := h
def un4 {α0 α1 α2 α3 : Type} (f : α0 → α1 → α2 → α3 → Prop) : α0 × α1 × α2 × α3 → Prop := fun p => f p.1 p.2.1 p.2.2.1 p.2.2.2
theorem un4_e {α0 α1 α2 α3 : Type} {f : α0 → α1 → α2 → α3 → Prop} {a0 : α0} {a1 : α1} {a2 : α2} {a3 : α3} (h : un4 f (a0, a1, a2, a3)) : f a0 a1 a2 a3 := h
def un5 {α0 α1 α2 α3 α4 : Type} (f : α0 → α1 → α2 → α3 → α4 → Prop) : α0 × α1 × α2 × α3 × α4 → Prop := fun p => f p.1 p.2.1 p.2.2.1 p.2.2.2.1 p.2.2.2.2
theorem un5_e {α0 α1 α2 α3 α4 : Type} {f : α0 → α1 → α2 → α3 → α4 → Prop} {a0 : α0} {a1 : α1} {a2 : α2} {a3 : α3} {a4 : α4} (h : un5 f (a0, a1, a2, a3, a4)) : f a0 a1 a2 a3 a4 := h
def un6 {α0 α1 α2 α3 α4 α5 : Type} (f : α0 → α1 → α2 → α3 → α4 → α5 → Prop) : α0 × α1 × α2 × α3 × α4 × α5 → Prop := fun p => f p.1 p.2.1 p.2.2.1 p.2.2.2.1 p.2.2.2.2.1 p.2.2.2.2.2
theorem un6_e {α0 α1 α2 α3 α4 α5 : Type} {f : α0 → α1 → α2 → α3 → α4 → α5 → Prop} {a0 : α0} {a1 : α1} {a2 : α2} {a3 : α3} {a4 : α4} {a5 : α5} (h : un6 f (a0, a1, a2, a3, a4, a5)) : f a0 a1 a2 a3 a4 a5 := h
def un7 {α0 α1 α2 α3 α4 α5 α6 : Type} (f : α0 → α1 → α2 → α3 → α4 → α5 → α6 → Prop) : α0 × α1 × α2 × α3 × α4 × α5 × α6 → Prop := fun p => f p.1 p.2.1 p.2.2.1 p.2.2.2.1 p.2.2.2.2.1 p.2.2.2.2.2.1 p.2.2.2.2.2.2
theorem un7_e {α0 α1 α2 α3 α4 α5 α6 : Type} {f : α0 → α1 → α2 → α3 → α4 → α5 → α6 → Prop} {a0 : α0} {a1 : α1} {a2 : α2} {a3 : α3} {a4 : α4} {a5 : α5} {a6 : α6} (h : un7 f (a0, a1, a2, a3, a4, a5, a6)) : f a0 a1 a2 a3 a4 a5 a6 := h
def un8 {α0 α1 α2 α3 α4 α5 α6 α7 : Type} (f : α0 → α1 → α2 → α3 → α4 → α5 → α6 → α7 → Prop) : α0 × α1 × α2 × α3 × α4 × α5 × α6 × α7 → Prop := fun p => f p.1 p.2.1 p.2.2.1 p.2.2.2.1 p.2.2.2.2.1 p.2.2.2.2.2.1 p.2.2.2.2.2.2.1 p.2.2.2.2.2.2.2
theorem un8_e {α0 α1 α2 α3 α4 α5 α6 α7 : Type} {f : α0 → α1 → α2 → α3 → α4 → α5 → α6 → α7 → Prop} {a0 : α0} {a1 : α1} {a2 : α2} {a3 : α3} {a4 : α4} {a5 : α5} {a6 : α6} {a7 : α7} (h : un8 f (a0, a1, a2, a3, a4, a5, a6, a7)) : f a0 a1 a2 a3 a4 a5 a6 a7 := h
def un9 {α0 α1 α2 α3 α4 α5 α6 α7 α8 : Type} (f : α0 → α1 → α2 → α3 → α4 → α5 → α6 → α7 → α8 → Prop) : α0 × α1 × α2 × α3 × α4 × α5 × α6 × α7 × α8 → Prop := fun p => f p.1 p.2.1 p.2.2.1 p.2.2.2.1 p.2.2.2.2.1 p.2.2.2.2.2.1 p.2.2.2.2.2.2.1 p.2.2.2.2.2.2.2.1 p.2.2.2.2.2.2.2.2
theorem un9_e {α0 α1 α2 α3 α4 α5 α6 α7 α8 : Type} {f : α0 → α1 → α2 → α3 → α4 → α5 → α6 → α7 → α8 → Prop} {a0 : α0} {a1 : α1} {a2 : α2} {a3 : α3} {a4 : α4} {a5 : α5} {a6 : α6} {a7 : α7} {a8 : α8} (h : un9 f (a0, a1, a2, a3, a4, a5, a6, a7, a8)) : f a0 a1 a2 a3 a4 a5 a6 a7 a8 := h
def un10 {α0 α1 α2 α3 α4 α5 α6 α7 α8 α9 : Type} (f : α0 → α1 → α2 → α3 → α4 → α5 → α6 → α7 → α8 → α9 → Prop) : α0 × α1 × α2 × α3 × α4 × α5 × α6 × α7 × α8 × α9 → Prop := fun p => f p.1 p.2.1 p.2.2.1 p.2.2.2.1 p.2.2.2.2.1 p.2.2.2.2.2.1 p.2.2.2.2.2.2.1 p.2.2.2.2.2.2.2.1 p.2.2.2.2.2.2.2.2.1 p.2.2.2.2.2.2.2.2.2
theorem un10_e {α0 α1 α2 α3 α4 α5 α6 α7 α8 α9 : Type} {f : α0 → α1 → α2 → α3 → α4 → α5 → α6 → α7 → α8 → α9 → Prop} {a0 : α0} {a1 : α1} {a2 : α2} {a3 : α3} {a4 : α4} {a5 : α5} {a6 : α6} {a7 : α7} {a8 : α8} {a9 : α9} (h : un10 f (a0, a1, a2, a3, a4, a5, a6, a7, a8, a9)) : f a0 a1 a2 a3 a4 a5 a6 a7 a8 a9 := h
def un11 {α0 α1 α2 α3 α4 α5 α6 α7 α8 α9 α10 : Type} (f : α0 → α1 → α2 → α3 → α4 → α5 → α6 → α7 → α8 → α9 → α10 → Prop) : α0 × α1 × α2 × α3 × α4 × α5 × α6 × α7 × α8 × α9 × α10 → Prop := fun p => f p.1 p.2.1 p.2.2.1 p.2.2.2.1 p.2.2.2.2.1 p.2.2.2.2.2.1 p.2.2.2.2.2.2.1 p.2.2.2.2.2.2.2.1 p.2.2.2.2.2.2.2.2.1 p.2.2.2.2.2.2.2.2.2.1 p.2.2.2.2.2.2.2.2.2.2
theorem un11_e {α0 α1 α2 α3 α4 α5 α6 α7 α8 α9 α10 : Type} {f : α0 → α1 → α2 → α3 → α4 → α5 → α6 → α7 → α8 → α9 → α10 → Prop} {a0 : α0} {a1 : α1} {a2 : α2} {a3 : α3} {a4 : α4} {a5 : α5} {a6 : α6} {a7 : α7} {a8 : α8} {a9 : α9} {a10 : α10} (h : un11 f (a0, a1, a2, a3, a4, a5, a6, a7, a8, a9, a10)) : f a0 a1 a2 a3 a4 a5 a6 a7 a8 a9 a10 := h
def un12 {α0 α1 α2 α3 α4 α5 α6 α7 α8 α9 α10 α11 : Type} (f : α0 → α1 → α2 → α3 → α4 → α5 → α6 → α7 → α8 → α9 → α10 → α11 → Prop) : α0 × α1 × α2 × α3 × α4 × α5 × α6 × α7 × α8 × α9 × α10 × α11 → Prop := fun p => f p.1 p.2.1 p.2.2.1 p.2.2.2.1 p.2.2.2.2.1 p.2.2.2.2.2.1 p.2.2.2.2.2.2.1 p.2.2.2.2.2.2.2.1 p.2.2.2.2.2.2.2.2.1 p.2.2.2.2.2.2.2.2.2.1 p.2.2.2.2.2.2.2.2.2.2.1 p.2.2.2.2.2.2.2.2.2.2.2
theorem un12_e {α0 α1 α2 α3 α4 α5 α6 α7 α8 α9 α10 α11 : Type} {f : α0 → α1 → α2 → α3 → α4 → α5 → α6 → α7 → α8 → α9 → α10 → α11 → Prop} {a0 : α0} {a1 : α1} {a2 : α2} {a3 : α3} {a4 : α4} {a5 : α5} {a6 : α6} {a7 : α7} {a8 : α8} {a9 : α9} {a10 : α10} {a11 : α11} (h : un12 f (a0, a1, a2, a3, a4, a5, a6, a7, a8, a9, a10, a11)) : f a0 a1 a2 a3 a4 a5 a6 a7 a8 a9 a10 a11 := h
def un13 {α0 α1 α2 α3 α4 α5 α6 α7 α8 α9 α10 α11 α12 : Type} (f : α0 → α1 → α2 → α3 → α4 → α5 → α6 → α7 → α8 → α9 → α10 → α11 → α12 → Prop) : α0 × α1 × α2 × α3 × α4 × α5 × α6 × α7 × α8 × α9 × α10 × α11 × α12 → Prop := fun p => f p.1 p.2.1 p.2.2.1 p.2.2.2.1 p.2.2.2.2.1 p.2.2.2.2.2.1 p.2.2.2.2.2.2.1 p.2.2.2.2.2.2.2.1 p.2.2.2.2.2.2.2.2.1 p.2.2.2.2.2.2.2.2.2.1 p.2.2.2.2.2.2.2.2.2.2.1 p.2.2.2.2.2.2.2.2.2.2.2.1 p.2.2.2.2.2.2.2.2.2.2.2.2
theorem un13_e {α0 α1 α2 α3 α4 α5 α6 α7 α8 α9 α10 α11 α12 : Type} {f : α0 → α1 → α2 → α3 → α4 → α5 → α6 → α7 → α8 → α9 → α10 → α11 → α12 → Prop} {a0 : α0} {a1 : α1} {a2 : α2} {a3 : α3} {a4 : α4} {a5 : α5} {a6 : α6} {a7 : α7} {a8 : α8} {a9 : α9} {a10 : α10} {a11 : α11} {a12 : α12} (h : un13 f (a0, a1, a2, a3, a4, a5, a6, a7, a8, a9, a10, a11, a12)) : f a0 a1 a2 a3 a4 a5 a6 a7 a8 a9 a10 a11 a12 := h
def un14 {α0 α1 α2 α3 α4 α5 α6 α7 α8 α9 α10 α11 α12 α13 : Type} (f : α0 → α1 → α2 → α3 → α4 → α5 → α6 → α7 → α8 → α9 → α10 → α11 → α12 → α13 → Prop) : α0 × α1 × α2 × α3 × α4 × α5 × α6 × α7 × α8 × α9 × α10 × α11 × α12 × α13 → Prop := fun p => f p.1 p.2.1 p.2.2.1 p.2.2.2.1 p.2.2.2.2.1 p.2.2.2.2.2.1 p.2.2.2.2.2.2.1 p.2.2.2.2.2.2.2.1 p.2.2.2.2.2.2.2.2.1 p.2.2.2.2.2.2.2.2.2.1 p.2.2.2.2.2.2.2.2.2.2.1 p.2.2.2.2.2.2.2.2.2.2.2.1 p.2.2.2.2.2.2.2.2.2.2.2.2.1 p.2.2.2.2.2.2.2.2.2.2.2.2.2
theorem un14_e {α0 α1 α2 α3 α4 α5 α6 α7 α8 α9 α10 α11 α12 α13 : Type} {f : α0 → α1 → α2 → α3 → α4 → α5 → α6 → α7 → α8 → α9 → α10 → α11 → α12 → α13 → Prop} {a0 : α0} {a1 : α1} {a2 : α2} {a3 : α3} {a4 : α4} {a5 : α5} {a6 : α6} {a7 : α7} {a8 : α8} {a9 : α9} {a10 : α10} {a11 : α11} {a12 : α12} {a13 : α13} (h : un14 f (a0, a1, a2, a3, a4, a5, a6, a7, a8, a9, a10, a11, a12, a13)) : f a0 a1 a2 a3 a4 a5 a6 a7 a8 a9 a10 a11 a12 a13 := h
def un15 {α0 α1 α2 α3 α4 α5 α6 α7 α8 α9 α10 α11 α12 α13 α14 : Type} (f : α0 → α1 → α2 → α3 → α4 → α5 → α6 → α7 → α8 → α9 → α10 → α11 → α12 → α13 → α14 → Prop) : α0 × α1 × α2 × α3 × α4 × α5 × α6 × α7 × α8 × α9 × α10 × α11 × α12 × α13 × α14 → Prop := fun p => f p.1 p.2.1 p.2.2.1 p.2.2.2.1 p.2.2.2.2.1 p.2.2.2.2.2.1 p.2.2.2.2.2.2.1 p.2.2.2.2.2.2.2.1 p.2.2.2.2.2.2.2.2.1 p.2.2.2.2.2.2.2.2.2.1 p.2.2.2.2.2.2.2.2.2.2.1 p.2.2.2.2.2.2.2.2.2.2.2.1 p.2.2.2.2.2.2.2.2.2.2.2.2.1 p.2.2.2.2.2.2.2.2.2.2.2.2.2.1 p.2.2.2.2.2.2.2.2.2.2.2.2.2.2
theorem un15_e {α0 α1 α2 α3 α4 α5 α6 α7 α8 α9 α10 α11 α12 α13 α14 : Type} {f : α0 → α1 → α2 → α3 → α4 → α5 → α6 → α7 → α8 → α9 → α10 → α11 → α12 → α13 → α14 → Prop} {a0 : α0} {a1 : α1} {a2 : α2} {a3 : α3} {a4 : α4} {a5 : α5} {a6 : α6} {a7 : α7} {a8 : α8} {a9 : α9} {a10 : α10} {a11 : α11} {a12 : α12} {a13 : α13} {a14 : α14} (h : un15 f (a0, a1, a2, a3, a4, a5, a6, a7, a8, a9, a10, a11, a12, a13, a14)) : f a0 a1 a2 a3 a4 a5 a6 a7 a8 a9 a10 a11 a12 a13 a14 := h
def un16 {α0 α1 α2 α3 α4 α5 α6 α7 α8 α9 α10 α11 α12 α13 α14 α15 : Type} (f : α0 → α1 → α2 → α3 → α4 → α5 → α6 → α7 → α8 → α9 → α10 → α11 → α12 → α13 → α14 → α15 → Prop) : α0 × α1 × α2 × α3 × α4 × α5 × α6 × α7 × α8 × α9 × α10 × α11 × α12 × α13 × α14 × α15 → Prop := fun p => f p.1 p.2.1 p.2.2.1 p.2.2.2.1 p.2.2.2.2.1 p.2.2.2.2.2.1 p.2.2.2.2.2.2.1 p.2.2.2.2.2.2.2.1 p.2.2.2.2.2.2.2.2.1 p.2.2.2.2.2.2.2.2.2.1 p.2.2.2.2.2.2.2.2.2.2.1 p.2.2.2.2.2.2.2.2.2.2.2.1 p.2.2.2.2.2.2.2.2.2.2.2.2.1 p.2.2.2.2.2.2.2.2.2.2.2.2.2.1 p.2.2.2.2.2.2.2.2.2.2.2.2.2.2.1 p.2.2.2.2.2.2.2.2.2.2.2.2.2.2.2
theorem un16_e {α0 α1 α2 α3 α4 α5 α6 α7 α8 α9 α10 α11 α12 α13 α14 α15 : Type} {f : α0 → α1 → α2 → α3 → α4 → α5 → α6 → α7 → α8 → α9 → α10 → α11 → α12 → α13 → α14 → α15 → Prop} {a0 : α0} {a1 : α1} {a2 : α2} {a3 : α3} {a4 : α4} {a5 : α5} {a6 : α6} {a7 : α7} {a8 : α8} {a9 : α9} {a10 : α10} {a11 : α11} {a12 : α12} {a13 : α13} {a14 : α14} {a15 : α15} (h : un16 f (a0, a1, a2, a3, a4, a5, a6, a7, a8, a9, a10, a11, a12, a13, a14, a15)) : f a0 a1 a2 a3 a4 a5 a6 a7 a8 a9 a10 a11 a12 a13 a14 a15 := h
def un17 {α0 α1 α2 α3 α4 α5 α6 α7 α8 α9 α10 α11 α12 α13 α14 α15 α16 : Type} (f : α0 → α1 → α2 → α3 → α4 → α5 → α6 → α7 → α8 → α9 → α10 → α11 → α12 → α13 → α14 → α15 → α16 → Prop) : α0 × α1 × α2 × α3 × α4 × α5 × α6 × α7 × α8 × α9 × α10 × α11 × α12 × α13 × α14 × α15 × α16 → Prop := fun p => f p.1 p.2.1 p.2.2.1 p.2.2.2.1 p.2.2.2.2.1 p.2.2.2.2.2.1 p.2.2.2.2.2.2.1 p.2.2.2.2.2.2.2.1 p.2.2.2.2.2.2.2.2.1 p.2.2.2.2.2.2.2.2.2.1 p.2.2.2.2.2.2.2.2.2.2.1 p.2.2.2.2.2.2.2.2.2.2.2.1 p.2.2.2.2.2.2.2.2.2.2.2.2.1 p.2.2.2.2.2.2.2.2.2.2.2.2.2.1 p.2.2.2.2.2.2.2.2.2.2.2.2.2.2.1 p.2.2.2.2.2.2.2.2.2.2.2.2.2.2.2.1 p.2.2.2.2.2.2.2.2.2.2.2.2.2.2.2.2
theorem un17_e {α0 α1 α2 α3 α4 α5 α6 α7 α8 α9 α10 α11 α12 α13 α14 α15 α16 : Type} {f : α0 → α1 → α2 → α3 → α4 → α5 → α6 → α7 → α8 → α9 → α10 → α11 → α12 → α13 → α14 → α15 → α16 → Prop} {a0 : α0} {a1 : α1} {a2 : α2} {a3 : α3} {a4 : α4} {a5 : α5} {a6 : α6} {a7 : α7} {a8 : α8} {a9 : α9} {a10 : α10} {a11 : α11} {a12 : α12} {a13 : α13} {a14 : α14} {a15 : α15} {a16 : α16} (h : un17 f (a0, a1, a2, a3, a4, a5, a6, a7, a8, a9, a10, a11, a12, a13, a14, a15, a16)) : f a0 a1 a2 a3 a4 a5 a6 a7 a8 a9 a10 a11 a12 a13 a14 a15 a16 := h
def un19 {α0 α1 α2 α3 α4 α5 α6 α7 α8 α9 α10 α11 α12 α13 α14 α15 α16 α17 α18 : Type} (f : α0 → α1 → α2 → α3 → α4 → α5 → α6 → α7 → α8 → α9 → α10 → α11 → α12 → α13 → α14 → α15 → α16 → α17 → α18 → Prop) : α0 × α1 × α2 × α3 × α4 × α5 × α6 × α7 × α8 × α9 × α10 × α11 × α12 × α13 × α14 × α15 × α16 × α17 × α18 → Prop := fun p => f p.1 p.2.1 p.2.2.1 p.2.2.2.1 p.2.2.2.2.1 p.2.2.2.2.2.1 p.2.2.2.2.2.2.1 p.2.2.2.2.2.2.2.1 p.2.2.2.2.2.2.2.2.1 p.2.2.2.2.2.2.2.2.2.1 p.2.2.2.2.2.2.2.2.2.2.1 p.2.2.2.2.2.2.2.2.2.2.2.1 p.2.2.2.2.2.2.2.2.2.2.2.2.1 p.2.2.2.2.2.2.2.2.2.2.2.2.2.1 p.2.2.2.2.2.2.2.2.2.2.2.2.2.2.1 p.2.2.2.2.2.2.2.2.2.2.2.2.2.2.2.1 p.2.2.2.2.2.2.2.2.2.2.2.2.2.2.2.2.1 p.2.2.2.2.2.2.2.2.2.2.2.2.2.2.2.2.2.1 p.2.2.2.2.2.2.2.2.2.2.2.2.2.2.2.2.2.2
theorem un19_e {α0 α1 α2 α3 α4 α5 α6 α7 α8 α9 α10 α11 α12 α13 α14 α15 α16 α17 α18 : Type} {f : α0 → α1 → α2 → α3 → α4 → α5 → α6 → α7 → α8 → α9 → α10 → α11 → α12 → α13 → α14 → α15 → α16 → α17 → α18 → Prop} {a0 : α0} {a1 : α1} {a2 : α2} {a3 : α3} {a4 : α4} {a5 : α5} {a6 : α6} {a7 : α7} {a8 : α8} {a9 : α9} {a10 : α10} {a11 : α11} {a12 : α12} {a13 : α13} {a14 : α14} {a15 : α15} {a16 : α16} {a17 : α17} {a18 : α18} (h : un19 f (a0, a1, a2, a3, a4, a5, a6, a7, a8, a9, a10, a11, a12, a13, a14, a15, a16, a17, a18)) : f a0 a1 a2 a3 a4 a5 a6 a7 a8 a9 a10 a11 a12 a13 a14 a15 a16 a17 a18 := h
def un22 {α0 α1 α2 α3 α4 α5 α6 α7 α8 α9 α10 α11 α12 α13 α14 α15 α16 α17 α18 α19 α20 α21 : Type} (f : α0 → α1 → α2 → α3 → α4 → α5 → α6 → α7 → α8 → α9 → α10 → α11 → α12 → α13 → α14 → α15 → α16 → α17 → α18 → α19 → α20 → α21 → Prop) : α0 × α1 × α2 × α3 × α4 × α5 × α6 × α7 × α8 × α9 × α10 × α11 × α12 × α13 × α14 × α15 × α16 × α17 × α18 × α19 × α20 × α21 → Prop := fun p => f p.1 p.2.1 p.2.2.1 p.2.2.2.1 p.2.2.2.2.1 p.2.2.2.2.2.1 p.2.2.2.2.2.2.1 p.2.2.2.2.2.2.2.1 p.2.2.2.2.2.2.2.2.1 p.2.2.2.2.2.2.2.2.2.1 p.2.2.2.2.2.2.2.2.2.2.1 p.2.2.2.2.2.2.2.2.2.2.2.1 p.2.2.2.2.2.2.2.2.2.2.2.2.1 p.2.2.2.2.2.2.2.2.2.2.2.2.2.1 p.2.2.2.2.2.2.2.2.2.2.2.2.2.2.1 p.2.2.2.2.2.2.2.2.2.2.2.2.2.2.2.1 p.2.2.2.2.2.2.2.2.2.2.2.2.2.2.2.2.1 p.2.2.2.2.2.2.2.2.2.2.2.2.2.2.2.2.2.1 p.2.2.2.2.2.2.2.2.2.2.2.2.2.2.2.2.2.2.1 p.2.2.2.2.2.2.2.2.2.2.2.2.2.2.2.2.2.2.2.1 p.2.2.2.2.2.2.2.2.2.2.2.2.2.2.2.2.2.2.2.2.1 p.2.2.2.2.2.2.2.2.2.2.2.2.2.2.2.2.2.2.2.2.2
theorem un22_e {α0 α1 α2 α3 α4 α5 α6 α7 α8 α9 α10 α11 α12 α13 α14 α15 α16 α17 α18 α19 α20 α21 : Type} {f : α0 → α1 → α2 → α3 → α4 → α5 → α6 → α7 → α8 → α9 → α10 → α11 → α12 → α13 → α14 → α15 → α16 → α17 → α18 → α19 → α20 → α21 → Prop} {a0 : α0} {a1 : α1} {a2 : α2} {a3 : α3} {a4 : α4} {a5 : α5} {a6 : α6} {a7 : α7} {a8 : α8} {a9 : α9} {a10 : α10} {a11 : α11} {a12 : α12} {a13 : α13} {a14 : α14} {a15 : α15} {a16 : α16} {a17 : α17} {a18 : α18} {a19 : α19} {a20 : α20} {a21 : α21} (h : un22 f (a0, a1, a2, a3, a4, a5, a6, a7, a8, a9, a10, a11, a12, a13, a14, a15, a16, a17, a18, a19, a20, a21)) : f a0 a1 a2 a3 a4 a5 a6 a7 a8 a9 a10 a11 a12 a13 a14 a15 a16 a17 a18 a19 a20 a21 := h
def un24 {α0 α1 α2 α3 α4 α5 α6 α7 α8 α9 α10 α11 α12 α13 α14 α15 α16 α17 α18 α19 α20 α21 α22 α23 : Type} (f : α0 → α1 → α2 → α3 → α4 → α5 → α6 → α7 → α8 → α9 → α10 → α11 → α12 → α13 → α14 → α15 → α16 → α17 → α18 → α19 → α20 → α21 → α22 → α23 → Prop) : α0 × α1 × α2 × α3 × α4 × α5 × α6 × α7 × α8 × α9 × α10 × α11 × α12 × α13 × α14 × α15 × α16 × α17 × α18 × α19 × α20 × α21 × α22 × α23 → Prop := fun p => f p.1 p.2.1 p.2.2.1 p.2.2.2.1 p.2.2.2.2.1 p.2.2.2.2.2.1 p.2.2.2.2.2.2.1 p.2.2.2.2.2.2.2.1 p.2.2.2.2.2.2.2.2.1 p.2.2.2.2.2.2.2.2.2.1 p.2.2.2.2.2.2.2.2.2.2.1 p.2.2.2.2.2.2.2.2.2.2.2.1 p.2.2.2.2.2.2.2.2.2.2.2.2.1 p.2.2.2.2.2.2.2.2.2.2.2.2.2.1 p.2.2.2.2.2.2.2.2.2.2.2.2.2.2.1 p.2.2.2.2.2.2.2.2.2.2.2.2.2.2.2.1 p.2.2.2.2.2.2.2.2.2.2.2.2.2.2.2.2.1 p.2.2.2.2.2.2.2.2.2.2.2.2.2.2.2.2.2.1 p.2.2.2.2.2.2.2.2.2.2.2.2.2.2.2.2.2.2.1 p.2.2.2.2.2.2.2.2.2.2.2.2.2.2.2.2.2.2.2.1 p.2.2.2.2.2.2.2.2.2.2.2.2.2.2.2.2.2.2.2.2.1 p.2.2.2.2.2.2.2.2.2.2.2.2.2.2.2.2.2.2.2.2.2.1 p.2.2.2.2.2.2.2.2.2.2.2.2.2.2.2.2.2.2.2.2.2.2.1 p.2.2.2.2.2.2.2.2.2.2.2.2.2.2.2.2.2.2.2.2.2.2.2
theorem un24_e {α0 α1 α2 α3 α4 α5 α6 α7 α8 α9 α10 α11 α12 α13 α14 α15 α16 α17 α18 α19 α20 α21 α22 α23 : Type} {f : α0 → α1 → α2 → α3 → α4 → α5 → α6 → α7 → α8 → α9 → α10 → α11 → α12 → α13 → α14 → α15 → α16 → α17 → α18 → α19 → α20 → α21 → α22 → α23 → Prop} {a0 : α0} {a1 : α1} {a2 : α2} {a3 : α3} {a4 : α4} {a5 : α5} {a6 : α6} {a7 : α7} {a8 : α8} {a9 : α9} {a10 : α10} {a11 : α11} {a12 : α12} {a13 : α13} {a14 : α14} {a15 : α15} {a16 : α16} {a17 : α17} {a18 : α18} {a19 : α19} {a20 : α20} {a21 : α21} {a22 : α22} {a23 : α23} (h : un24 f (a0, a1, a2, a3, a4, a5, a6, a7, a8, a9, a10, a11, a12, a13, a14, a15, a16, a17, a18, a19, a20, a21, a22, a23)) : f a0 a1 a2 a3 a4 a5 a6 a7 a8 a9 a10 a11 a12 a13 a14 a15 a16 a17 a18 a19 a20 a21 a22 a23 := h
def un25 {α0 α1 α2 α3 α4 α5 α6 α7 α8 α9 α10 α11 α12 α13 α14 α15 α16 α17 α18 α19 α20 α21 α22 α23 α24 : Type} (f : α0 → α1 → α2 → α3 → α4 → α5 → α6 → α7 → α8 → α9 → α10 → α11 → α12 → α13 → α14 → α15 → α16 → α17 → α18 → α19 → α20 → α21 → α22 → α23 → α24 → Prop) : α0 × α1 × α2 × α3 × α4 × α5 × α6 × α7 × α8 × α9 × α10 × α11 × α12 × α13 × α14 × α15 × α16 × α17 × α18 × α19 × α20 × α21 × α22 × α23 × α24 → Prop := fun p => f p.1 p.2.1 p.2.2.1 p.2.2.2.1 p.2.2.2.2.1 p.2.2.2.2.2.1 p.2.2.2.2.2.2.1 p.2.2.2.2.2.2.2.1 p.2.2.2.2.2.2.2.2.1 p.2.2.2.2.2.2.2.2.2.1 p.2.2.2.2.2.2.2.2.2.2.1 p.2.2.2.2.2.2.2.2.2.2.2.1 p.2.2.2.2.2.2.2.2.2.2.2.2.1 p.2.2.2.2.2.2.2.2.2.2.2.2.2.1 p.2.2.2.2.2.2.2.2.2.2.2.2.2.2.1 p.2.2.2.2.2.2.2.2.2.2.2.2.2.2.2.1 p.2.2.2.2.2.2.2.2.2.2.2.2.2.2.2.2.1 p.2.2.2.2.2.2.2.2.2.2.2.2.2.2.2.2.2.1 p.2.2.2.2.2.2.2.2.2.2.2.2.2.2.2.2.2.2.1 p.2.2.2.2.2.2.2.2.2.2.2.2.2.2.2.2.2.2.2.1 p.2.2.2.2.2.2.2.2.2.2.2.2.2.2.2.2.2.2.2.2.1 p.2.2.2.2.2.2.2.2.2.2.2.2.2.2.2.2.2.2.2.2.2.1 p.2.2.2.2.2.2.2.2.2.2.2.2.2.2.2.2.2.2.2.2.2.2.1 p.2.2.2.2.2.2.2.2.2.2.2.2.2.2.2.2.2.2.2.2.2.2.2.1 p.2.2.2.2.2.2.2.2.2.2.2.2.2.2.2.2.2.2.2.2.2.2.2.2
theorem un25_e {α0 α1 α2 α3 α4 α5 α6 α7 α8 α9 α10 α11 α12 α13 α14 α15 α16 α17 α18 α19 α20 α21 α22 α23 α24 : Type} {f : α0 → α1 → α2 → α3 → α4 → α5 → α6 → α7 → α8 → α9 → α10 → α11 → α12 → α13 → α14 → α15 → α16 → α17 → α18 → α19 → α20 → α21 → α22 → α23 → α24 → Prop} {a0 : α0} {a1 : α1} {a2 : α2} {a3 : α3} {a4 : α4} {a5 : α5} {a6 : α6} {a7 : α7} {a8 : α8} {a9 : α9} {a10 : α10} {a11 : α11} {a12 : α12} {a13 : α13} {a14 : α14} {a15 : α15} {a16 : α16} {a17 : α17} {a18 : α18} {a19 : α19} {a20 : α20} {a21 : α21} {a22 : α22} {a23 : α23} {a24 : α24} (h : un25 f (a0, a1, a2, a3, a4, a5, a6, a7, a8, a9, a10, a11, a12, a13, a14, a15, a16, a17, a18, a19, a20, a21, a22, a23, a24)) : f a0 a1 a2 a3 a4 a5 a6 a7 a8 a9 a10 a11 a12 a13 a14 a15 a16 a17 a18 a19 a20 a21 a22 a23 a24 := h
end UN
end
