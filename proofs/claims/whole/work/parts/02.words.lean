/-- the good words of the tables: every method of ours is proved over them -/
def tb : List Cond := lw_tbl.filter goodWord
theorem tb_good : ∀ w ∈ tb, goodWord w = true := fun w h => (List.mem_filter.mp h).2
theorem tb_in : ∀ w ∈ tb, w ∈ lw_tbl := fun w h => (List.mem_filter.mp h).1
theorem mw0 : (.selects "RoomEchoes" ⟨"RoomEchoes", "requirePoint", "(III)V"⟩ ⟨"RoomEchoes", "requirePoint", "(III)V"⟩ : Cond) ∈ tb := List.mem_filter.mpr ⟨List.mem_of_getElem? (i := 0) (by decide +kernel), by decide +kernel⟩
theorem mw2 : (.selects "RoomEchoes" ⟨"RoomEchoes", "forgetOrder", "()V"⟩ ⟨"RoomEchoes", "forgetOrder", "()V"⟩ : Cond) ∈ tb := List.mem_filter.mpr ⟨List.mem_of_getElem? (i := 2) (by decide +kernel), by decide +kernel⟩
theorem mw3 : (.selects "RoomEchoes" ⟨"RoomEchoes", "distanceOf", "(III)J"⟩ ⟨"RoomEchoes", "distanceOf", "(III)J"⟩ : Cond) ∈ tb := List.mem_filter.mpr ⟨List.mem_of_getElem? (i := 3) (by decide +kernel), by decide +kernel⟩
theorem mw4 : (.selects "RoomEchoes$Axis" ⟨"RoomEchoes$Axis", "imageAt", "(I)I"⟩ ⟨"RoomEchoes$Axis", "imageAt", "(I)I"⟩ : Cond) ∈ tb := List.mem_filter.mpr ⟨List.mem_of_getElem? (i := 4) (by decide +kernel), by decide +kernel⟩
theorem mw5 : (.selects "RoomEchoes" ⟨"RoomEchoes", "strengthOf", "(III)J"⟩ ⟨"RoomEchoes", "strengthOf", "(III)J"⟩ : Cond) ∈ tb := List.mem_filter.mpr ⟨List.mem_of_getElem? (i := 5) (by decide +kernel), by decide +kernel⟩
theorem mw6 : (.selects "RoomEchoes" ⟨"RoomEchoes", "orderEchoes", "()V"⟩ ⟨"RoomEchoes", "orderEchoes", "()V"⟩ : Cond) ∈ tb := List.mem_filter.mpr ⟨List.mem_of_getElem? (i := 6) (by decide +kernel), by decide +kernel⟩
theorem mw7 : (.selects "RoomEchoes$Axis" ⟨"RoomEchoes$Axis", "insert", "(II)V"⟩ ⟨"RoomEchoes$Axis", "insert", "(II)V"⟩ : Cond) ∈ tb := List.mem_filter.mpr ⟨List.mem_of_getElem? (i := 7) (by decide +kernel), by decide +kernel⟩
theorem mw8 : (.selects "RoomEchoes" ⟨"RoomEchoes", "addAtRanks", "(III)V"⟩ ⟨"RoomEchoes", "addAtRanks", "(III)V"⟩ : Cond) ∈ tb := List.mem_filter.mpr ⟨List.mem_of_getElem? (i := 8) (by decide +kernel), by decide +kernel⟩
theorem mw9 : (.selects "RoomEchoes$Frontier" ⟨"RoomEchoes$Frontier", "sinkFromTop", "(J)V"⟩ ⟨"RoomEchoes$Frontier", "sinkFromTop", "(J)V"⟩ : Cond) ∈ tb := List.mem_filter.mpr ⟨List.mem_of_getElem? (i := 9) (by decide +kernel), by decide +kernel⟩
theorem mw10 : (.selects "RoomEchoes$Frontier" ⟨"RoomEchoes$Frontier", "lesserOf", "(I)I"⟩ ⟨"RoomEchoes$Frontier", "lesserOf", "(I)I"⟩ : Cond) ∈ tb := List.mem_filter.mpr ⟨List.mem_of_getElem? (i := 10) (by decide +kernel), by decide +kernel⟩
theorem mw11 : (.selects "RoomEchoes" ⟨"RoomEchoes", "addFollowers", "(J)V"⟩ ⟨"RoomEchoes", "addFollowers", "(J)V"⟩ : Cond) ∈ tb := List.mem_filter.mpr ⟨List.mem_of_getElem? (i := 11) (by decide +kernel), by decide +kernel⟩
theorem mw12 : (.selects "RoomEchoes" ⟨"RoomEchoes", "countWithin", "(J)I"⟩ ⟨"RoomEchoes", "countWithin", "(J)I"⟩ : Cond) ∈ tb := List.mem_filter.mpr ⟨List.mem_of_getElem? (i := 12) (by decide +kernel), by decide +kernel⟩
theorem mw13 : (.selects "RoomEchoes" ⟨"RoomEchoes", "weighEchoes", "()V"⟩ ⟨"RoomEchoes", "weighEchoes", "()V"⟩ : Cond) ∈ tb := List.mem_filter.mpr ⟨List.mem_of_getElem? (i := 13) (by decide +kernel), by decide +kernel⟩
theorem mw14 : (.selects "RoomEchoes" ⟨"RoomEchoes", "loudnessBetween", "(II)J"⟩ ⟨"RoomEchoes", "loudnessBetween", "(II)J"⟩ : Cond) ∈ tb := List.mem_filter.mpr ⟨List.mem_of_getElem? (i := 14) (by decide +kernel), by decide +kernel⟩
theorem mw15 : (.selects "RoomEchoesModel" ⟨"RoomEchoesModel", "isPoint", "(III)Z"⟩ ⟨"RoomEchoesModel", "isPoint", "(III)Z"⟩ : Cond) ∈ tb := List.mem_filter.mpr ⟨List.mem_of_getElem? (i := 15) (by decide +kernel), by decide +kernel⟩
theorem mw16 : (.selects "RoomEchoesModel" ⟨"RoomEchoesModel", "told", "(IIII)J"⟩ ⟨"RoomEchoesModel", "told", "(IIII)J"⟩ : Cond) ∈ tb := List.mem_filter.mpr ⟨List.mem_of_getElem? (i := 16) (by decide +kernel), by decide +kernel⟩
theorem mw17 : (.selects "RoomEchoesModel" ⟨"RoomEchoesModel", "distance", "(III)J"⟩ ⟨"RoomEchoesModel", "distance", "(III)J"⟩ : Cond) ∈ tb := List.mem_filter.mpr ⟨List.mem_of_getElem? (i := 17) (by decide +kernel), by decide +kernel⟩
theorem mw18 : (.selects "RoomEchoesModel" ⟨"RoomEchoesModel", "square", "(II)J"⟩ ⟨"RoomEchoesModel", "square", "(II)J"⟩ : Cond) ∈ tb := List.mem_filter.mpr ⟨List.mem_of_getElem? (i := 18) (by decide +kernel), by decide +kernel⟩
theorem mw19 : (.selects "RoomEchoesModel" ⟨"RoomEchoesModel", "strength", "(III)J"⟩ ⟨"RoomEchoesModel", "strength", "(III)J"⟩ : Cond) ∈ tb := List.mem_filter.mpr ⟨List.mem_of_getElem? (i := 19) (by decide +kernel), by decide +kernel⟩
theorem mw20 : (.selects "RoomEchoesModel" ⟨"RoomEchoesModel", "kept", "(JII)J"⟩ ⟨"RoomEchoesModel", "kept", "(JII)J"⟩ : Cond) ∈ tb := List.mem_filter.mpr ⟨List.mem_of_getElem? (i := 20) (by decide +kernel), by decide +kernel⟩
theorem mw21 : (.selects "RoomEchoesModel" ⟨"RoomEchoesModel", "make", "()V"⟩ ⟨"RoomEchoesModel", "make", "()V"⟩ : Cond) ∈ tb := List.mem_filter.mpr ⟨List.mem_of_getElem? (i := 21) (by decide +kernel), by decide +kernel⟩
theorem mw22 : (.selects "RoomEchoesModel" ⟨"RoomEchoesModel", "prepare", "()V"⟩ ⟨"RoomEchoesModel", "prepare", "()V"⟩ : Cond) ∈ tb := List.mem_filter.mpr ⟨List.mem_of_getElem? (i := 22) (by decide +kernel), by decide +kernel⟩
theorem mw23 : (.selects "RoomEchoesModel" ⟨"RoomEchoesModel", "isEnough", "(J)Z"⟩ ⟨"RoomEchoesModel", "isEnough", "(J)Z"⟩ : Cond) ∈ tb := List.mem_filter.mpr ⟨List.mem_of_getElem? (i := 23) (by decide +kernel), by decide +kernel⟩
theorem mw24 : (.selects "RoomEchoesModel" ⟨"RoomEchoesModel", "collect", "(IJJ)I"⟩ ⟨"RoomEchoesModel", "collect", "(IJJ)I"⟩ : Cond) ∈ tb := List.mem_filter.mpr ⟨List.mem_of_getElem? (i := 24) (by decide +kernel), by decide +kernel⟩
theorem mw25 : (.selects "RoomEchoesModel" ⟨"RoomEchoesModel", "put", "(IJIII)V"⟩ ⟨"RoomEchoesModel", "put", "(IJIII)V"⟩ : Cond) ∈ tb := List.mem_filter.mpr ⟨List.mem_of_getElem? (i := 25) (by decide +kernel), by decide +kernel⟩
theorem mw26 : (.selects "RoomEchoesModel" ⟨"RoomEchoesModel", "countUntil", "(J)I"⟩ ⟨"RoomEchoesModel", "countUntil", "(J)I"⟩ : Cond) ∈ tb := List.mem_filter.mpr ⟨List.mem_of_getElem? (i := 26) (by decide +kernel), by decide +kernel⟩
theorem mw27 : (.selects "RoomEchoesModel" ⟨"RoomEchoesModel", "first", "(I)J"⟩ ⟨"RoomEchoesModel", "first", "(I)J"⟩ : Cond) ∈ tb := List.mem_filter.mpr ⟨List.mem_of_getElem? (i := 27) (by decide +kernel), by decide +kernel⟩
theorem mw28 : (.selects "RoomEchoesModel" ⟨"RoomEchoesModel", "loudness", "(I)J"⟩ ⟨"RoomEchoesModel", "loudness", "(I)J"⟩ : Cond) ∈ tb := List.mem_filter.mpr ⟨List.mem_of_getElem? (i := 28) (by decide +kernel), by decide +kernel⟩
theorem mw29 : (.initialized "RoomEchoesLaw" : Cond) ∈ tb := List.mem_filter.mpr ⟨List.mem_of_getElem? (i := 29) (by decide +kernel), by decide +kernel⟩
theorem mw30 : (.initialized "RoomEchoes" : Cond) ∈ tb := List.mem_filter.mpr ⟨List.mem_of_getElem? (i := 30) (by decide +kernel), by decide +kernel⟩
theorem mw31 : (.initialized "RoomEchoes$Frontier" : Cond) ∈ tb := List.mem_filter.mpr ⟨List.mem_of_getElem? (i := 31) (by decide +kernel), by decide +kernel⟩
theorem mw32 : (.initialized "RoomEchoes$Axis" : Cond) ∈ tb := List.mem_filter.mpr ⟨List.mem_of_getElem? (i := 32) (by decide +kernel), by decide +kernel⟩
theorem mw33 : (.initialized "java/lang/Math" : Cond) ∈ tb := List.mem_filter.mpr ⟨List.mem_of_getElem? (i := 33) (by decide +kernel), by decide +kernel⟩
theorem mw34 : (.initialized "RoomEchoesModel" : Cond) ∈ tb := List.mem_filter.mpr ⟨List.mem_of_getElem? (i := 34) (by decide +kernel), by decide +kernel⟩
theorem mw38 : (.initialized "java/lang/IllegalArgumentException" : Cond) ∈ tb := List.mem_filter.mpr ⟨List.mem_of_getElem? (i := 38) (by decide +kernel), by decide +kernel⟩
theorem mw39 : (.classLink "RoomEchoesLaw" 8 "RoomEchoes" : Cond) ∈ tb := List.mem_filter.mpr ⟨List.mem_of_getElem? (i := 39) (by decide +kernel), by decide +kernel⟩
theorem mw40 : (.instantiable "RoomEchoes" 9 : Cond) ∈ tb := List.mem_filter.mpr ⟨List.mem_of_getElem? (i := 40) (by decide +kernel), by decide +kernel⟩
theorem mw41 : (.methodLink "RoomEchoesLaw" 58 ⟨"RoomEchoes", "<init>", "(III)V"⟩ : Cond) ∈ tb := List.mem_filter.mpr ⟨List.mem_of_getElem? (i := 41) (by decide +kernel), by decide +kernel⟩
theorem mw42 : (.instanceMethod ⟨"RoomEchoes", "<init>", "(III)V"⟩ : Cond) ∈ tb := List.mem_filter.mpr ⟨List.mem_of_getElem? (i := 42) (by decide +kernel), by decide +kernel⟩
theorem mw43 : (.code ⟨"RoomEchoes", "<init>", "(III)V"⟩ prog_1_method_1_code 5 none : Cond) ∈ tb := List.mem_filter.mpr ⟨List.mem_of_getElem? (i := 43) (by decide +kernel), by decide +kernel⟩
theorem mw44 : (.methodLink "RoomEchoes" 3 ⟨"java/lang/Object", "<init>", "()V"⟩ : Cond) ∈ tb := List.mem_filter.mpr ⟨List.mem_of_getElem? (i := 44) (by decide +kernel), by decide +kernel⟩
theorem mw45 : (.instanceMethod ⟨"java/lang/Object", "<init>", "()V"⟩ : Cond) ∈ tb := List.mem_filter.mpr ⟨List.mem_of_getElem? (i := 45) (by decide +kernel), by decide +kernel⟩
theorem mw46 : (.code ⟨"java/lang/Object", "<init>", "()V"⟩ object_method_1_code 1 none : Cond) ∈ tb := List.mem_filter.mpr ⟨List.mem_of_getElem? (i := 46) (by decide +kernel), by decide +kernel⟩
theorem mw47 : (.classLink "RoomEchoes" 13 "RoomEchoes$Frontier" : Cond) ∈ tb := List.mem_filter.mpr ⟨List.mem_of_getElem? (i := 47) (by decide +kernel), by decide +kernel⟩
theorem mw48 : (.instantiable "RoomEchoes$Frontier" 2 : Cond) ∈ tb := List.mem_filter.mpr ⟨List.mem_of_getElem? (i := 48) (by decide +kernel), by decide +kernel⟩
theorem mw50 : (.instanceMethod ⟨"RoomEchoes$Frontier", "<init>", "()V"⟩ : Cond) ∈ tb := List.mem_filter.mpr ⟨List.mem_of_getElem? (i := 50) (by decide +kernel), by decide +kernel⟩
theorem mw51 : (.code ⟨"RoomEchoes$Frontier", "<init>", "()V"⟩ prog_3_method_1_code 1 none : Cond) ∈ tb := List.mem_filter.mpr ⟨List.mem_of_getElem? (i := 51) (by decide +kernel), by decide +kernel⟩
theorem mw52 : (.methodLink "RoomEchoes$Frontier" 3 ⟨"java/lang/Object", "<init>", "()V"⟩ : Cond) ∈ tb := List.mem_filter.mpr ⟨List.mem_of_getElem? (i := 52) (by decide +kernel), by decide +kernel⟩
theorem mw53 : (.fieldLink "RoomEchoes$Frontier" 9 "RoomEchoes$Frontier" "keys" "[J" : Cond) ∈ tb := List.mem_filter.mpr ⟨List.mem_of_getElem? (i := 53) (by decide +kernel), by decide +kernel⟩
theorem mw54 : (.fieldLink "RoomEchoes$Frontier" 15 "RoomEchoes$Frontier" "size" "I" : Cond) ∈ tb := List.mem_filter.mpr ⟨List.mem_of_getElem? (i := 54) (by decide +kernel), by decide +kernel⟩
theorem mw60 : (.arrayClass .int : Cond) ∈ tb := List.mem_filter.mpr ⟨List.mem_of_getElem? (i := 60) (by decide +kernel), by decide +kernel⟩
theorem mw61 : (.arrayClass .long : Cond) ∈ tb := List.mem_filter.mpr ⟨List.mem_of_getElem? (i := 61) (by decide +kernel), by decide +kernel⟩
theorem mw62 : (.classLink "RoomEchoes" 27 "RoomEchoes$Axis" : Cond) ∈ tb := List.mem_filter.mpr ⟨List.mem_of_getElem? (i := 62) (by decide +kernel), by decide +kernel⟩
theorem mw63 : (.instantiable "RoomEchoes$Axis" 5 : Cond) ∈ tb := List.mem_filter.mpr ⟨List.mem_of_getElem? (i := 63) (by decide +kernel), by decide +kernel⟩
theorem mw64 : (.methodLink "RoomEchoes" 29 ⟨"RoomEchoes", "sizeWithin", "(I)I"⟩ : Cond) ∈ tb := List.mem_filter.mpr ⟨List.mem_of_getElem? (i := 64) (by decide +kernel), by decide +kernel⟩
theorem mw65 : (.static ⟨"RoomEchoes", "sizeWithin", "(I)I"⟩ : Cond) ∈ tb := List.mem_filter.mpr ⟨List.mem_of_getElem? (i := 65) (by decide +kernel), by decide +kernel⟩
theorem mw66 : (.code ⟨"RoomEchoes", "sizeWithin", "(I)I"⟩ prog_1_method_13_code 1 (some .int) : Cond) ∈ tb := List.mem_filter.mpr ⟨List.mem_of_getElem? (i := 66) (by decide +kernel), by decide +kernel⟩
theorem mw67 : (.methodLink "RoomEchoes" 127 ⟨"java/lang/Math", "min", "(II)I"⟩ : Cond) ∈ tb := List.mem_filter.mpr ⟨List.mem_of_getElem? (i := 67) (by decide +kernel), by decide +kernel⟩
theorem mw68 : (.static ⟨"java/lang/Math", "min", "(II)I"⟩ : Cond) ∈ tb := List.mem_filter.mpr ⟨List.mem_of_getElem? (i := 68) (by decide +kernel), by decide +kernel⟩
theorem mw69 : (.code ⟨"java/lang/Math", "min", "(II)I"⟩ prog_8_method_69_code 2 (some .int) : Cond) ∈ tb := List.mem_filter.mpr ⟨List.mem_of_getElem? (i := 69) (by decide +kernel), by decide +kernel⟩
theorem mw70 : (.methodLink "RoomEchoes" 133 ⟨"java/lang/Math", "max", "(II)I"⟩ : Cond) ∈ tb := List.mem_filter.mpr ⟨List.mem_of_getElem? (i := 70) (by decide +kernel), by decide +kernel⟩
theorem mw71 : (.static ⟨"java/lang/Math", "max", "(II)I"⟩ : Cond) ∈ tb := List.mem_filter.mpr ⟨List.mem_of_getElem? (i := 71) (by decide +kernel), by decide +kernel⟩
theorem mw72 : (.code ⟨"java/lang/Math", "max", "(II)I"⟩ prog_8_method_65_code 2 (some .int) : Cond) ∈ tb := List.mem_filter.mpr ⟨List.mem_of_getElem? (i := 72) (by decide +kernel), by decide +kernel⟩
theorem mw73 : (.methodLink "RoomEchoes" 33 ⟨"RoomEchoes$Axis", "<init>", "(I)V"⟩ : Cond) ∈ tb := List.mem_filter.mpr ⟨List.mem_of_getElem? (i := 73) (by decide +kernel), by decide +kernel⟩
theorem mw74 : (.instanceMethod ⟨"RoomEchoes$Axis", "<init>", "(I)V"⟩ : Cond) ∈ tb := List.mem_filter.mpr ⟨List.mem_of_getElem? (i := 74) (by decide +kernel), by decide +kernel⟩
theorem mw75 : (.code ⟨"RoomEchoes$Axis", "<init>", "(I)V"⟩ prog_2_method_1_code 2 none : Cond) ∈ tb := List.mem_filter.mpr ⟨List.mem_of_getElem? (i := 75) (by decide +kernel), by decide +kernel⟩
theorem mw76 : (.methodLink "RoomEchoes$Axis" 3 ⟨"java/lang/Object", "<init>", "()V"⟩ : Cond) ∈ tb := List.mem_filter.mpr ⟨List.mem_of_getElem? (i := 76) (by decide +kernel), by decide +kernel⟩
theorem mw77 : (.fieldLink "RoomEchoes$Axis" 19 "RoomEchoes$Axis" "size" "I" : Cond) ∈ tb := List.mem_filter.mpr ⟨List.mem_of_getElem? (i := 77) (by decide +kernel), by decide +kernel⟩
theorem mw78 : (.fieldLink "RoomEchoes" 145 "RoomEchoes$Axis" "size" "I" : Cond) ∈ tb := List.mem_filter.mpr ⟨List.mem_of_getElem? (i := 78) (by decide +kernel), by decide +kernel⟩
theorem mw79 : (.fieldLink "RoomEchoes" 50 "RoomEchoes$Axis" "sourceAt" "I" : Cond) ∈ tb := List.mem_filter.mpr ⟨List.mem_of_getElem? (i := 79) (by decide +kernel), by decide +kernel⟩
theorem mw80 : (.fieldLink "RoomEchoes$Axis" 30 "RoomEchoes$Axis" "sourceAt" "I" : Cond) ∈ tb := List.mem_filter.mpr ⟨List.mem_of_getElem? (i := 80) (by decide +kernel), by decide +kernel⟩
theorem mw81 : (.fieldLink "RoomEchoes$Axis" 27 "RoomEchoes$Axis" "listenerAt" "I" : Cond) ∈ tb := List.mem_filter.mpr ⟨List.mem_of_getElem? (i := 81) (by decide +kernel), by decide +kernel⟩
theorem mw82 : (.fieldLink "RoomEchoes" 57 "RoomEchoes$Axis" "listenerAt" "I" : Cond) ∈ tb := List.mem_filter.mpr ⟨List.mem_of_getElem? (i := 82) (by decide +kernel), by decide +kernel⟩
theorem mw83 : (.fieldLink "RoomEchoes$Axis" 9 "RoomEchoes$Axis" "ranked" "[J" : Cond) ∈ tb := List.mem_filter.mpr ⟨List.mem_of_getElem? (i := 83) (by decide +kernel), by decide +kernel⟩
theorem mw84 : (.fieldLink "RoomEchoes$Axis" 15 "RoomEchoes$Axis" "ranks" "[I" : Cond) ∈ tb := List.mem_filter.mpr ⟨List.mem_of_getElem? (i := 84) (by decide +kernel), by decide +kernel⟩
theorem mw96 : (.fieldLink "RoomEchoes" 36 "RoomEchoes" "first" "LRoomEchoes$Axis;" : Cond) ∈ tb := List.mem_filter.mpr ⟨List.mem_of_getElem? (i := 96) (by decide +kernel), by decide +kernel⟩
theorem mw97 : (.fieldLink "RoomEchoes" 40 "RoomEchoes" "second" "LRoomEchoes$Axis;" : Cond) ∈ tb := List.mem_filter.mpr ⟨List.mem_of_getElem? (i := 97) (by decide +kernel), by decide +kernel⟩
theorem mw98 : (.fieldLink "RoomEchoes" 43 "RoomEchoes" "third" "LRoomEchoes$Axis;" : Cond) ∈ tb := List.mem_filter.mpr ⟨List.mem_of_getElem? (i := 98) (by decide +kernel), by decide +kernel⟩
theorem mw99 : (.fieldLink "RoomEchoes" 9 "RoomEchoes" "kept" "[I" : Cond) ∈ tb := List.mem_filter.mpr ⟨List.mem_of_getElem? (i := 99) (by decide +kernel), by decide +kernel⟩
theorem mw100 : (.fieldLink "RoomEchoes" 16 "RoomEchoes" "frontier" "LRoomEchoes$Frontier;" : Cond) ∈ tb := List.mem_filter.mpr ⟨List.mem_of_getElem? (i := 100) (by decide +kernel), by decide +kernel⟩
theorem mw101 : (.fieldLink "RoomEchoes" 20 "RoomEchoes" "echoKeys" "[J" : Cond) ∈ tb := List.mem_filter.mpr ⟨List.mem_of_getElem? (i := 101) (by decide +kernel), by decide +kernel⟩
theorem mw102 : (.fieldLink "RoomEchoes" 24 "RoomEchoes" "loudnesses" "[J" : Cond) ∈ tb := List.mem_filter.mpr ⟨List.mem_of_getElem? (i := 102) (by decide +kernel), by decide +kernel⟩
theorem mw103 : (.fieldLink "RoomEchoes" 179 "RoomEchoes" "ordered" "Z" : Cond) ∈ tb := List.mem_filter.mpr ⟨List.mem_of_getElem? (i := 103) (by decide +kernel), by decide +kernel⟩
theorem mw104 : (.fieldLink "RoomEchoes" 63 "RoomEchoes" "weighed" "Z" : Cond) ∈ tb := List.mem_filter.mpr ⟨List.mem_of_getElem? (i := 104) (by decide +kernel), by decide +kernel⟩
theorem mw124 : (.methodLink "RoomEchoesLaw" 52 ⟨"RoomEchoesLaw", "cell", "([II)I"⟩ : Cond) ∈ tb := List.mem_filter.mpr ⟨List.mem_of_getElem? (i := 124) (by decide +kernel), by decide +kernel⟩
theorem mw125 : (.static ⟨"RoomEchoesLaw", "cell", "([II)I"⟩ : Cond) ∈ tb := List.mem_filter.mpr ⟨List.mem_of_getElem? (i := 125) (by decide +kernel), by decide +kernel⟩
theorem mw126 : (.code ⟨"RoomEchoesLaw", "cell", "([II)I"⟩ method_2_code 2 (some .int) : Cond) ∈ tb := List.mem_filter.mpr ⟨List.mem_of_getElem? (i := 126) (by decide +kernel), by decide +kernel⟩
theorem mw127 : (.methodLink "RoomEchoesLaw" 63 ⟨"RoomEchoesLaw", "source", "(LRoomEchoes;III)I"⟩ : Cond) ∈ tb := List.mem_filter.mpr ⟨List.mem_of_getElem? (i := 127) (by decide +kernel), by decide +kernel⟩
theorem mw128 : (.static ⟨"RoomEchoesLaw", "source", "(LRoomEchoes;III)I"⟩ : Cond) ∈ tb := List.mem_filter.mpr ⟨List.mem_of_getElem? (i := 128) (by decide +kernel), by decide +kernel⟩
theorem mw129 : (.codeWith ⟨"RoomEchoesLaw", "source", "(LRoomEchoes;III)I"⟩ method_3_code 5 (some .int) [(0, 7, 10, 13)] : Cond) ∈ tb := List.mem_filter.mpr ⟨List.mem_of_getElem? (i := 129) (by decide +kernel), by decide +kernel⟩
theorem mw130 : (.classLink "RoomEchoesLaw" 13 "java/lang/IllegalArgumentException" : Cond) ∈ tb := List.mem_filter.mpr ⟨List.mem_of_getElem? (i := 130) (by decide +kernel), by decide +kernel⟩
theorem mw131 : (.methodLink "RoomEchoesLaw" 7 ⟨"RoomEchoes", "source", "(III)V"⟩ : Cond) ∈ tb := List.mem_filter.mpr ⟨List.mem_of_getElem? (i := 131) (by decide +kernel), by decide +kernel⟩
theorem mw132 : (.instanceMethod ⟨"RoomEchoes", "source", "(III)V"⟩ : Cond) ∈ tb := List.mem_filter.mpr ⟨List.mem_of_getElem? (i := 132) (by decide +kernel), by decide +kernel⟩
theorem mw133 : (.selects "RoomEchoes" ⟨"RoomEchoes", "source", "(III)V"⟩ ⟨"RoomEchoes", "source", "(III)V"⟩ : Cond) ∈ tb := List.mem_filter.mpr ⟨List.mem_of_getElem? (i := 133) (by decide +kernel), by decide +kernel⟩
theorem mw134 : (.code ⟨"RoomEchoes", "source", "(III)V"⟩ prog_1_method_2_code 4 none : Cond) ∈ tb := List.mem_filter.mpr ⟨List.mem_of_getElem? (i := 134) (by decide +kernel), by decide +kernel⟩
theorem mw135 : (.methodLink "RoomEchoes" 46 ⟨"RoomEchoes", "requirePoint", "(III)V"⟩ : Cond) ∈ tb := List.mem_filter.mpr ⟨List.mem_of_getElem? (i := 135) (by decide +kernel), by decide +kernel⟩
theorem mw137 : (.instanceMethod ⟨"RoomEchoes", "requirePoint", "(III)V"⟩ : Cond) ∈ tb := List.mem_filter.mpr ⟨List.mem_of_getElem? (i := 137) (by decide +kernel), by decide +kernel⟩
theorem mw138 : (.code ⟨"RoomEchoes", "requirePoint", "(III)V"⟩ prog_1_method_17_code 4 none : Cond) ∈ tb := List.mem_filter.mpr ⟨List.mem_of_getElem? (i := 138) (by decide +kernel), by decide +kernel⟩
theorem mw139 : (.methodLink "RoomEchoes" 60 ⟨"RoomEchoes", "requireWithin", "(III)V"⟩ : Cond) ∈ tb := List.mem_filter.mpr ⟨List.mem_of_getElem? (i := 139) (by decide +kernel), by decide +kernel⟩
theorem mw140 : (.static ⟨"RoomEchoes", "requireWithin", "(III)V"⟩ : Cond) ∈ tb := List.mem_filter.mpr ⟨List.mem_of_getElem? (i := 140) (by decide +kernel), by decide +kernel⟩
theorem mw141 : (.code ⟨"RoomEchoes", "requireWithin", "(III)V"⟩ prog_1_method_14_code 3 none : Cond) ∈ tb := List.mem_filter.mpr ⟨List.mem_of_getElem? (i := 141) (by decide +kernel), by decide +kernel⟩
theorem mw142 : (.classLink "RoomEchoes" 136 "java/lang/IllegalArgumentException" : Cond) ∈ tb := List.mem_filter.mpr ⟨List.mem_of_getElem? (i := 142) (by decide +kernel), by decide +kernel⟩
theorem mw143 : (.instantiable "java/lang/IllegalArgumentException" 6 : Cond) ∈ tb := List.mem_filter.mpr ⟨List.mem_of_getElem? (i := 143) (by decide +kernel), by decide +kernel⟩
theorem mw182 : (.methodLink "RoomEchoes" 140 ⟨"java/lang/IllegalArgumentException", "<init>", "(Ljava/lang/String;)V"⟩ : Cond) ∈ tb := List.mem_filter.mpr ⟨List.mem_of_getElem? (i := 182) (by decide +kernel), by decide +kernel⟩
theorem mw183 : (.instanceMethod ⟨"java/lang/IllegalArgumentException", "<init>", "(Ljava/lang/String;)V"⟩ : Cond) ∈ tb := List.mem_filter.mpr ⟨List.mem_of_getElem? (i := 183) (by decide +kernel), by decide +kernel⟩
theorem mw184 : (.code ⟨"java/lang/IllegalArgumentException", "<init>", "(Ljava/lang/String;)V"⟩ prog_7_method_2_code 2 none : Cond) ∈ tb := List.mem_filter.mpr ⟨List.mem_of_getElem? (i := 184) (by decide +kernel), by decide +kernel⟩
theorem mw207 : (.arrayClass .byte : Cond) ∈ tb := List.mem_filter.mpr ⟨List.mem_of_getElem? (i := 207) (by decide +kernel), by decide +kernel⟩
theorem mw208 : (.methodLink "RoomEchoes" 54 ⟨"RoomEchoes", "forgetOrder", "()V"⟩ : Cond) ∈ tb := List.mem_filter.mpr ⟨List.mem_of_getElem? (i := 208) (by decide +kernel), by decide +kernel⟩
theorem mw210 : (.instanceMethod ⟨"RoomEchoes", "forgetOrder", "()V"⟩ : Cond) ∈ tb := List.mem_filter.mpr ⟨List.mem_of_getElem? (i := 210) (by decide +kernel), by decide +kernel⟩
theorem mw211 : (.code ⟨"RoomEchoes", "forgetOrder", "()V"⟩ prog_1_method_34_code 1 none : Cond) ∈ tb := List.mem_filter.mpr ⟨List.mem_of_getElem? (i := 211) (by decide +kernel), by decide +kernel⟩
theorem mw212 : (.methodLink "RoomEchoesLaw" 71 ⟨"RoomEchoesLaw", "listener", "(LRoomEchoes;III)I"⟩ : Cond) ∈ tb := List.mem_filter.mpr ⟨List.mem_of_getElem? (i := 212) (by decide +kernel), by decide +kernel⟩
theorem mw213 : (.static ⟨"RoomEchoesLaw", "listener", "(LRoomEchoes;III)I"⟩ : Cond) ∈ tb := List.mem_filter.mpr ⟨List.mem_of_getElem? (i := 213) (by decide +kernel), by decide +kernel⟩
theorem mw214 : (.codeWith ⟨"RoomEchoesLaw", "listener", "(LRoomEchoes;III)I"⟩ method_4_code 5 (some .int) [(0, 7, 10, 13)] : Cond) ∈ tb := List.mem_filter.mpr ⟨List.mem_of_getElem? (i := 214) (by decide +kernel), by decide +kernel⟩
theorem mw215 : (.methodLink "RoomEchoesLaw" 15 ⟨"RoomEchoes", "listener", "(III)V"⟩ : Cond) ∈ tb := List.mem_filter.mpr ⟨List.mem_of_getElem? (i := 215) (by decide +kernel), by decide +kernel⟩
theorem mw216 : (.instanceMethod ⟨"RoomEchoes", "listener", "(III)V"⟩ : Cond) ∈ tb := List.mem_filter.mpr ⟨List.mem_of_getElem? (i := 216) (by decide +kernel), by decide +kernel⟩
theorem mw217 : (.selects "RoomEchoes" ⟨"RoomEchoes", "listener", "(III)V"⟩ ⟨"RoomEchoes", "listener", "(III)V"⟩ : Cond) ∈ tb := List.mem_filter.mpr ⟨List.mem_of_getElem? (i := 217) (by decide +kernel), by decide +kernel⟩
theorem mw218 : (.code ⟨"RoomEchoes", "listener", "(III)V"⟩ prog_1_method_3_code 4 none : Cond) ∈ tb := List.mem_filter.mpr ⟨List.mem_of_getElem? (i := 218) (by decide +kernel), by decide +kernel⟩
theorem mw219 : (.methodLink "RoomEchoesLaw" 74 ⟨"RoomEchoesLaw", "keeps", "(LRoomEchoes;II[J)I"⟩ : Cond) ∈ tb := List.mem_filter.mpr ⟨List.mem_of_getElem? (i := 219) (by decide +kernel), by decide +kernel⟩
theorem mw220 : (.static ⟨"RoomEchoesLaw", "keeps", "(LRoomEchoes;II[J)I"⟩ : Cond) ∈ tb := List.mem_filter.mpr ⟨List.mem_of_getElem? (i := 220) (by decide +kernel), by decide +kernel⟩
theorem mw221 : (.codeWith ⟨"RoomEchoesLaw", "keeps", "(LRoomEchoes;II[J)I"⟩ method_5_code 5 (some .int) [(0, 10, 13, 13)] : Cond) ∈ tb := List.mem_filter.mpr ⟨List.mem_of_getElem? (i := 221) (by decide +kernel), by decide +kernel⟩
theorem mw222 : (.methodLink "RoomEchoesLaw" 18 ⟨"RoomEchoes", "keeps", "(II)I"⟩ : Cond) ∈ tb := List.mem_filter.mpr ⟨List.mem_of_getElem? (i := 222) (by decide +kernel), by decide +kernel⟩
theorem mw223 : (.instanceMethod ⟨"RoomEchoes", "keeps", "(II)I"⟩ : Cond) ∈ tb := List.mem_filter.mpr ⟨List.mem_of_getElem? (i := 223) (by decide +kernel), by decide +kernel⟩
theorem mw224 : (.selects "RoomEchoes" ⟨"RoomEchoes", "keeps", "(II)I"⟩ ⟨"RoomEchoes", "keeps", "(II)I"⟩ : Cond) ∈ tb := List.mem_filter.mpr ⟨List.mem_of_getElem? (i := 224) (by decide +kernel), by decide +kernel⟩
theorem mw225 : (.code ⟨"RoomEchoes", "keeps", "(II)I"⟩ prog_1_method_4_code 4 (some .int) : Cond) ∈ tb := List.mem_filter.mpr ⟨List.mem_of_getElem? (i := 225) (by decide +kernel), by decide +kernel⟩
theorem mw226 : (.methodLink "RoomEchoesLaw" 78 ⟨"RoomEchoesLaw", "image", "(LRoomEchoes;IIII[J)I"⟩ : Cond) ∈ tb := List.mem_filter.mpr ⟨List.mem_of_getElem? (i := 226) (by decide +kernel), by decide +kernel⟩
theorem mw227 : (.static ⟨"RoomEchoesLaw", "image", "(LRoomEchoes;IIII[J)I"⟩ : Cond) ∈ tb := List.mem_filter.mpr ⟨List.mem_of_getElem? (i := 227) (by decide +kernel), by decide +kernel⟩
theorem mw228 : (.codeWith ⟨"RoomEchoesLaw", "image", "(LRoomEchoes;IIII[J)I"⟩ method_6_code 7 (some .int) [(0, 13, 16, 13)] : Cond) ∈ tb := List.mem_filter.mpr ⟨List.mem_of_getElem? (i := 228) (by decide +kernel), by decide +kernel⟩
theorem mw229 : (.methodLink "RoomEchoesLaw" 22 ⟨"RoomEchoes", "image", "(IIII)J"⟩ : Cond) ∈ tb := List.mem_filter.mpr ⟨List.mem_of_getElem? (i := 229) (by decide +kernel), by decide +kernel⟩
theorem mw230 : (.instanceMethod ⟨"RoomEchoes", "image", "(IIII)J"⟩ : Cond) ∈ tb := List.mem_filter.mpr ⟨List.mem_of_getElem? (i := 230) (by decide +kernel), by decide +kernel⟩
theorem mw231 : (.selects "RoomEchoes" ⟨"RoomEchoes", "image", "(IIII)J"⟩ ⟨"RoomEchoes", "image", "(IIII)J"⟩ : Cond) ∈ tb := List.mem_filter.mpr ⟨List.mem_of_getElem? (i := 231) (by decide +kernel), by decide +kernel⟩
theorem mw232 : (.code ⟨"RoomEchoes", "image", "(IIII)J"⟩ prog_1_method_5_code 5 (some .long) : Cond) ∈ tb := List.mem_filter.mpr ⟨List.mem_of_getElem? (i := 232) (by decide +kernel), by decide +kernel⟩
theorem mw233 : (.methodLink "RoomEchoes" 67 ⟨"RoomEchoes", "requireNumbers", "(III)V"⟩ : Cond) ∈ tb := List.mem_filter.mpr ⟨List.mem_of_getElem? (i := 233) (by decide +kernel), by decide +kernel⟩
theorem mw234 : (.static ⟨"RoomEchoes", "requireNumbers", "(III)V"⟩ : Cond) ∈ tb := List.mem_filter.mpr ⟨List.mem_of_getElem? (i := 234) (by decide +kernel), by decide +kernel⟩
theorem mw235 : (.code ⟨"RoomEchoes", "requireNumbers", "(III)V"⟩ prog_1_method_16_code 3 none : Cond) ∈ tb := List.mem_filter.mpr ⟨List.mem_of_getElem? (i := 235) (by decide +kernel), by decide +kernel⟩
theorem mw236 : (.methodLink "RoomEchoes" 70 ⟨"RoomEchoes", "distanceOf", "(III)J"⟩ : Cond) ∈ tb := List.mem_filter.mpr ⟨List.mem_of_getElem? (i := 236) (by decide +kernel), by decide +kernel⟩
theorem mw238 : (.instanceMethod ⟨"RoomEchoes", "distanceOf", "(III)J"⟩ : Cond) ∈ tb := List.mem_filter.mpr ⟨List.mem_of_getElem? (i := 238) (by decide +kernel), by decide +kernel⟩
theorem mw239 : (.code ⟨"RoomEchoes", "distanceOf", "(III)J"⟩ prog_1_method_18_code 4 (some .long) : Cond) ∈ tb := List.mem_filter.mpr ⟨List.mem_of_getElem? (i := 239) (by decide +kernel), by decide +kernel⟩
theorem mw240 : (.methodLink "RoomEchoes" 148 ⟨"RoomEchoes$Axis", "squareTo", "(I)J"⟩ : Cond) ∈ tb := List.mem_filter.mpr ⟨List.mem_of_getElem? (i := 240) (by decide +kernel), by decide +kernel⟩
theorem mw241 : (.instanceMethod ⟨"RoomEchoes$Axis", "squareTo", "(I)J"⟩ : Cond) ∈ tb := List.mem_filter.mpr ⟨List.mem_of_getElem? (i := 241) (by decide +kernel), by decide +kernel⟩
theorem mw242 : (.selects "RoomEchoes$Axis" ⟨"RoomEchoes$Axis", "squareTo", "(I)J"⟩ ⟨"RoomEchoes$Axis", "squareTo", "(I)J"⟩ : Cond) ∈ tb := List.mem_filter.mpr ⟨List.mem_of_getElem? (i := 242) (by decide +kernel), by decide +kernel⟩
theorem mw243 : (.code ⟨"RoomEchoes$Axis", "squareTo", "(I)J"⟩ prog_2_method_2_code 4 (some .long) : Cond) ∈ tb := List.mem_filter.mpr ⟨List.mem_of_getElem? (i := 243) (by decide +kernel), by decide +kernel⟩
theorem mw244 : (.methodLink "RoomEchoes$Axis" 23 ⟨"RoomEchoes$Axis", "imageAt", "(I)I"⟩ : Cond) ∈ tb := List.mem_filter.mpr ⟨List.mem_of_getElem? (i := 244) (by decide +kernel), by decide +kernel⟩
theorem mw246 : (.instanceMethod ⟨"RoomEchoes$Axis", "imageAt", "(I)I"⟩ : Cond) ∈ tb := List.mem_filter.mpr ⟨List.mem_of_getElem? (i := 246) (by decide +kernel), by decide +kernel⟩
theorem mw247 : (.code ⟨"RoomEchoes$Axis", "imageAt", "(I)I"⟩ prog_2_method_3_code 3 (some .int) : Cond) ∈ tb := List.mem_filter.mpr ⟨List.mem_of_getElem? (i := 247) (by decide +kernel), by decide +kernel⟩
theorem mw248 : (.methodLink "RoomEchoes" 74 ⟨"RoomEchoes", "strengthOf", "(III)J"⟩ : Cond) ∈ tb := List.mem_filter.mpr ⟨List.mem_of_getElem? (i := 248) (by decide +kernel), by decide +kernel⟩
theorem mw250 : (.instanceMethod ⟨"RoomEchoes", "strengthOf", "(III)J"⟩ : Cond) ∈ tb := List.mem_filter.mpr ⟨List.mem_of_getElem? (i := 250) (by decide +kernel), by decide +kernel⟩
theorem mw251 : (.code ⟨"RoomEchoes", "strengthOf", "(III)J"⟩ prog_1_method_19_code 8 (some .long) : Cond) ∈ tb := List.mem_filter.mpr ⟨List.mem_of_getElem? (i := 251) (by decide +kernel), by decide +kernel⟩
theorem mw252 : (.constantLong "RoomEchoes" 152 1000000000 : Cond) ∈ tb := List.mem_filter.mpr ⟨List.mem_of_getElem? (i := 252) (by decide +kernel), by decide +kernel⟩
theorem mw253 : (.methodLink "RoomEchoes" 154 ⟨"RoomEchoes", "strengthAfterAxis", "(JIII)J"⟩ : Cond) ∈ tb := List.mem_filter.mpr ⟨List.mem_of_getElem? (i := 253) (by decide +kernel), by decide +kernel⟩
theorem mw254 : (.static ⟨"RoomEchoes", "strengthAfterAxis", "(JIII)J"⟩ : Cond) ∈ tb := List.mem_filter.mpr ⟨List.mem_of_getElem? (i := 254) (by decide +kernel), by decide +kernel⟩
theorem mw255 : (.code ⟨"RoomEchoes", "strengthAfterAxis", "(JIII)J"⟩ prog_1_method_20_code 7 (some .long) : Cond) ∈ tb := List.mem_filter.mpr ⟨List.mem_of_getElem? (i := 255) (by decide +kernel), by decide +kernel⟩
theorem mw256 : (.methodLink "RoomEchoes" 157 ⟨"RoomEchoes", "hitsAtZero", "(I)I"⟩ : Cond) ∈ tb := List.mem_filter.mpr ⟨List.mem_of_getElem? (i := 256) (by decide +kernel), by decide +kernel⟩
theorem mw257 : (.static ⟨"RoomEchoes", "hitsAtZero", "(I)I"⟩ : Cond) ∈ tb := List.mem_filter.mpr ⟨List.mem_of_getElem? (i := 257) (by decide +kernel), by decide +kernel⟩
theorem mw258 : (.code ⟨"RoomEchoes", "hitsAtZero", "(I)I"⟩ prog_1_method_22_code 1 (some .int) : Cond) ∈ tb := List.mem_filter.mpr ⟨List.mem_of_getElem? (i := 258) (by decide +kernel), by decide +kernel⟩
theorem mw259 : (.methodLink "RoomEchoes" 160 ⟨"RoomEchoes", "strengthAfterHits", "(JII)J"⟩ : Cond) ∈ tb := List.mem_filter.mpr ⟨List.mem_of_getElem? (i := 259) (by decide +kernel), by decide +kernel⟩
theorem mw260 : (.static ⟨"RoomEchoes", "strengthAfterHits", "(JII)J"⟩ : Cond) ∈ tb := List.mem_filter.mpr ⟨List.mem_of_getElem? (i := 260) (by decide +kernel), by decide +kernel⟩
theorem mw261 : (.code ⟨"RoomEchoes", "strengthAfterHits", "(JII)J"⟩ prog_1_method_21_code 7 (some .long) : Cond) ∈ tb := List.mem_filter.mpr ⟨List.mem_of_getElem? (i := 261) (by decide +kernel), by decide +kernel⟩
theorem mw262 : (.constantLong "RoomEchoes" 123 1000 : Cond) ∈ tb := List.mem_filter.mpr ⟨List.mem_of_getElem? (i := 262) (by decide +kernel), by decide +kernel⟩
theorem mw263 : (.methodLink "RoomEchoes" 164 ⟨"RoomEchoes", "hitsAtSize", "(I)I"⟩ : Cond) ∈ tb := List.mem_filter.mpr ⟨List.mem_of_getElem? (i := 263) (by decide +kernel), by decide +kernel⟩
theorem mw264 : (.static ⟨"RoomEchoes", "hitsAtSize", "(I)I"⟩ : Cond) ∈ tb := List.mem_filter.mpr ⟨List.mem_of_getElem? (i := 264) (by decide +kernel), by decide +kernel⟩
theorem mw265 : (.code ⟨"RoomEchoes", "hitsAtSize", "(I)I"⟩ prog_1_method_23_code 1 (some .int) : Cond) ∈ tb := List.mem_filter.mpr ⟨List.mem_of_getElem? (i := 265) (by decide +kernel), by decide +kernel⟩
theorem mw266 : (.methodLink "RoomEchoes" 77 ⟨"RoomEchoes", "loudnessOf", "(JJ)J"⟩ : Cond) ∈ tb := List.mem_filter.mpr ⟨List.mem_of_getElem? (i := 266) (by decide +kernel), by decide +kernel⟩
theorem mw267 : (.static ⟨"RoomEchoes", "loudnessOf", "(JJ)J"⟩ : Cond) ∈ tb := List.mem_filter.mpr ⟨List.mem_of_getElem? (i := 267) (by decide +kernel), by decide +kernel⟩
theorem mw268 : (.code ⟨"RoomEchoes", "loudnessOf", "(JJ)J"⟩ prog_1_method_26_code 6 (some .long) : Cond) ∈ tb := List.mem_filter.mpr ⟨List.mem_of_getElem? (i := 268) (by decide +kernel), by decide +kernel⟩
theorem mw269 : (.methodLink "RoomEchoes" 81 ⟨"RoomEchoes", "hitsOf", "(III)I"⟩ : Cond) ∈ tb := List.mem_filter.mpr ⟨List.mem_of_getElem? (i := 269) (by decide +kernel), by decide +kernel⟩
theorem mw270 : (.static ⟨"RoomEchoes", "hitsOf", "(III)I"⟩ : Cond) ∈ tb := List.mem_filter.mpr ⟨List.mem_of_getElem? (i := 270) (by decide +kernel), by decide +kernel⟩
theorem mw271 : (.code ⟨"RoomEchoes", "hitsOf", "(III)I"⟩ prog_1_method_25_code 3 (some .int) : Cond) ∈ tb := List.mem_filter.mpr ⟨List.mem_of_getElem? (i := 271) (by decide +kernel), by decide +kernel⟩
theorem mw272 : (.methodLink "RoomEchoes" 167 ⟨"RoomEchoes", "hitsOn", "(I)I"⟩ : Cond) ∈ tb := List.mem_filter.mpr ⟨List.mem_of_getElem? (i := 272) (by decide +kernel), by decide +kernel⟩
theorem mw273 : (.static ⟨"RoomEchoes", "hitsOn", "(I)I"⟩ : Cond) ∈ tb := List.mem_filter.mpr ⟨List.mem_of_getElem? (i := 273) (by decide +kernel), by decide +kernel⟩
theorem mw274 : (.code ⟨"RoomEchoes", "hitsOn", "(I)I"⟩ prog_1_method_24_code 1 (some .int) : Cond) ∈ tb := List.mem_filter.mpr ⟨List.mem_of_getElem? (i := 274) (by decide +kernel), by decide +kernel⟩
theorem mw275 : (.methodLink "RoomEchoesLaw" 82 ⟨"RoomEchoesLaw", "echo", "(LRoomEchoes;II[J)I"⟩ : Cond) ∈ tb := List.mem_filter.mpr ⟨List.mem_of_getElem? (i := 275) (by decide +kernel), by decide +kernel⟩
theorem mw276 : (.static ⟨"RoomEchoesLaw", "echo", "(LRoomEchoes;II[J)I"⟩ : Cond) ∈ tb := List.mem_filter.mpr ⟨List.mem_of_getElem? (i := 276) (by decide +kernel), by decide +kernel⟩
theorem mw277 : (.codeWith ⟨"RoomEchoesLaw", "echo", "(LRoomEchoes;II[J)I"⟩ method_7_code 5 (some .int) [(0, 9, 12, 13)] : Cond) ∈ tb := List.mem_filter.mpr ⟨List.mem_of_getElem? (i := 277) (by decide +kernel), by decide +kernel⟩
theorem mw278 : (.methodLink "RoomEchoesLaw" 26 ⟨"RoomEchoes", "echo", "(II)J"⟩ : Cond) ∈ tb := List.mem_filter.mpr ⟨List.mem_of_getElem? (i := 278) (by decide +kernel), by decide +kernel⟩
theorem mw279 : (.instanceMethod ⟨"RoomEchoes", "echo", "(II)J"⟩ : Cond) ∈ tb := List.mem_filter.mpr ⟨List.mem_of_getElem? (i := 279) (by decide +kernel), by decide +kernel⟩
theorem mw280 : (.selects "RoomEchoes" ⟨"RoomEchoes", "echo", "(II)J"⟩ ⟨"RoomEchoes", "echo", "(II)J"⟩ : Cond) ∈ tb := List.mem_filter.mpr ⟨List.mem_of_getElem? (i := 280) (by decide +kernel), by decide +kernel⟩
theorem mw281 : (.code ⟨"RoomEchoes", "echo", "(II)J"⟩ prog_1_method_6_code 8 (some .long) : Cond) ∈ tb := List.mem_filter.mpr ⟨List.mem_of_getElem? (i := 281) (by decide +kernel), by decide +kernel⟩
theorem mw282 : (.methodLink "RoomEchoes" 85 ⟨"RoomEchoes", "orderEchoes", "()V"⟩ : Cond) ∈ tb := List.mem_filter.mpr ⟨List.mem_of_getElem? (i := 282) (by decide +kernel), by decide +kernel⟩
theorem mw284 : (.instanceMethod ⟨"RoomEchoes", "orderEchoes", "()V"⟩ : Cond) ∈ tb := List.mem_filter.mpr ⟨List.mem_of_getElem? (i := 284) (by decide +kernel), by decide +kernel⟩
theorem mw285 : (.code ⟨"RoomEchoes", "orderEchoes", "()V"⟩ prog_1_method_35_code 4 none : Cond) ∈ tb := List.mem_filter.mpr ⟨List.mem_of_getElem? (i := 285) (by decide +kernel), by decide +kernel⟩
theorem mw286 : (.methodLink "RoomEchoes" 182 ⟨"RoomEchoes$Axis", "order", "()V"⟩ : Cond) ∈ tb := List.mem_filter.mpr ⟨List.mem_of_getElem? (i := 286) (by decide +kernel), by decide +kernel⟩
theorem mw287 : (.instanceMethod ⟨"RoomEchoes$Axis", "order", "()V"⟩ : Cond) ∈ tb := List.mem_filter.mpr ⟨List.mem_of_getElem? (i := 287) (by decide +kernel), by decide +kernel⟩
theorem mw288 : (.selects "RoomEchoes$Axis" ⟨"RoomEchoes$Axis", "order", "()V"⟩ ⟨"RoomEchoes$Axis", "order", "()V"⟩ : Cond) ∈ tb := List.mem_filter.mpr ⟨List.mem_of_getElem? (i := 288) (by decide +kernel), by decide +kernel⟩
theorem mw289 : (.code ⟨"RoomEchoes$Axis", "order", "()V"⟩ prog_2_method_4_code 3 none : Cond) ∈ tb := List.mem_filter.mpr ⟨List.mem_of_getElem? (i := 289) (by decide +kernel), by decide +kernel⟩
theorem mw290 : (.methodLink "RoomEchoes$Axis" 33 ⟨"RoomEchoes$Axis", "insert", "(II)V"⟩ : Cond) ∈ tb := List.mem_filter.mpr ⟨List.mem_of_getElem? (i := 290) (by decide +kernel), by decide +kernel⟩
theorem mw292 : (.instanceMethod ⟨"RoomEchoes$Axis", "insert", "(II)V"⟩ : Cond) ∈ tb := List.mem_filter.mpr ⟨List.mem_of_getElem? (i := 292) (by decide +kernel), by decide +kernel⟩
theorem mw293 : (.code ⟨"RoomEchoes$Axis", "insert", "(II)V"⟩ prog_2_method_5_code 6 none : Cond) ∈ tb := List.mem_filter.mpr ⟨List.mem_of_getElem? (i := 293) (by decide +kernel), by decide +kernel⟩
theorem mw294 : (.methodLink "RoomEchoes$Axis" 40 ⟨"RoomEchoes$Axis", "squareTo", "(I)J"⟩ : Cond) ∈ tb := List.mem_filter.mpr ⟨List.mem_of_getElem? (i := 294) (by decide +kernel), by decide +kernel⟩
theorem mw296 : (.static ⟨"RoomEchoes", "withNumberBelow", "(JI)J"⟩ : Cond) ∈ tb := List.mem_filter.mpr ⟨List.mem_of_getElem? (i := 296) (by decide +kernel), by decide +kernel⟩
theorem mw297 : (.code ⟨"RoomEchoes", "withNumberBelow", "(JI)J"⟩ prog_1_method_28_code 3 (some .long) : Cond) ∈ tb := List.mem_filter.mpr ⟨List.mem_of_getElem? (i := 297) (by decide +kernel), by decide +kernel⟩
theorem mw298 : (.methodLink "RoomEchoes$Axis" 37 ⟨"RoomEchoes$Axis", "numberAt", "(I)I"⟩ : Cond) ∈ tb := List.mem_filter.mpr ⟨List.mem_of_getElem? (i := 298) (by decide +kernel), by decide +kernel⟩
theorem mw299 : (.instanceMethod ⟨"RoomEchoes$Axis", "numberAt", "(I)I"⟩ : Cond) ∈ tb := List.mem_filter.mpr ⟨List.mem_of_getElem? (i := 299) (by decide +kernel), by decide +kernel⟩
theorem mw300 : (.selects "RoomEchoes$Axis" ⟨"RoomEchoes$Axis", "numberAt", "(I)I"⟩ ⟨"RoomEchoes$Axis", "numberAt", "(I)I"⟩ : Cond) ∈ tb := List.mem_filter.mpr ⟨List.mem_of_getElem? (i := 300) (by decide +kernel), by decide +kernel⟩
theorem mw301 : (.code ⟨"RoomEchoes$Axis", "numberAt", "(I)I"⟩ prog_2_method_7_code 2 (some .int) : Cond) ∈ tb := List.mem_filter.mpr ⟨List.mem_of_getElem? (i := 301) (by decide +kernel), by decide +kernel⟩
theorem mw303 : (.static ⟨"RoomEchoes", "lowestNumberIn", "(J)I"⟩ : Cond) ∈ tb := List.mem_filter.mpr ⟨List.mem_of_getElem? (i := 303) (by decide +kernel), by decide +kernel⟩
theorem mw304 : (.code ⟨"RoomEchoes", "lowestNumberIn", "(J)I"⟩ prog_1_method_29_code 2 (some .int) : Cond) ∈ tb := List.mem_filter.mpr ⟨List.mem_of_getElem? (i := 304) (by decide +kernel), by decide +kernel⟩
theorem mw305 : (.constantLong "RoomEchoes" 174 127 : Cond) ∈ tb := List.mem_filter.mpr ⟨List.mem_of_getElem? (i := 305) (by decide +kernel), by decide +kernel⟩
theorem mw306 : (.methodLink "RoomEchoes" 185 ⟨"RoomEchoes$Frontier", "clear", "()V"⟩ : Cond) ∈ tb := List.mem_filter.mpr ⟨List.mem_of_getElem? (i := 306) (by decide +kernel), by decide +kernel⟩
theorem mw307 : (.instanceMethod ⟨"RoomEchoes$Frontier", "clear", "()V"⟩ : Cond) ∈ tb := List.mem_filter.mpr ⟨List.mem_of_getElem? (i := 307) (by decide +kernel), by decide +kernel⟩
theorem mw308 : (.selects "RoomEchoes$Frontier" ⟨"RoomEchoes$Frontier", "clear", "()V"⟩ ⟨"RoomEchoes$Frontier", "clear", "()V"⟩ : Cond) ∈ tb := List.mem_filter.mpr ⟨List.mem_of_getElem? (i := 308) (by decide +kernel), by decide +kernel⟩
theorem mw309 : (.code ⟨"RoomEchoes$Frontier", "clear", "()V"⟩ prog_3_method_2_code 1 none : Cond) ∈ tb := List.mem_filter.mpr ⟨List.mem_of_getElem? (i := 309) (by decide +kernel), by decide +kernel⟩
theorem mw310 : (.methodLink "RoomEchoes" 188 ⟨"RoomEchoes", "addAtRanks", "(III)V"⟩ : Cond) ∈ tb := List.mem_filter.mpr ⟨List.mem_of_getElem? (i := 310) (by decide +kernel), by decide +kernel⟩
theorem mw312 : (.instanceMethod ⟨"RoomEchoes", "addAtRanks", "(III)V"⟩ : Cond) ∈ tb := List.mem_filter.mpr ⟨List.mem_of_getElem? (i := 312) (by decide +kernel), by decide +kernel⟩
theorem mw313 : (.code ⟨"RoomEchoes", "addAtRanks", "(III)V"⟩ prog_1_method_37_code 6 none : Cond) ∈ tb := List.mem_filter.mpr ⟨List.mem_of_getElem? (i := 313) (by decide +kernel), by decide +kernel⟩
theorem mw314 : (.methodLink "RoomEchoes" 201 ⟨"RoomEchoes$Axis", "squareAt", "(I)J"⟩ : Cond) ∈ tb := List.mem_filter.mpr ⟨List.mem_of_getElem? (i := 314) (by decide +kernel), by decide +kernel⟩
theorem mw315 : (.instanceMethod ⟨"RoomEchoes$Axis", "squareAt", "(I)J"⟩ : Cond) ∈ tb := List.mem_filter.mpr ⟨List.mem_of_getElem? (i := 315) (by decide +kernel), by decide +kernel⟩
theorem mw316 : (.selects "RoomEchoes$Axis" ⟨"RoomEchoes$Axis", "squareAt", "(I)J"⟩ ⟨"RoomEchoes$Axis", "squareAt", "(I)J"⟩ : Cond) ∈ tb := List.mem_filter.mpr ⟨List.mem_of_getElem? (i := 316) (by decide +kernel), by decide +kernel⟩
theorem mw317 : (.code ⟨"RoomEchoes$Axis", "squareAt", "(I)J"⟩ prog_2_method_6_code 2 (some .long) : Cond) ∈ tb := List.mem_filter.mpr ⟨List.mem_of_getElem? (i := 317) (by decide +kernel), by decide +kernel⟩
theorem mw318 : (.methodLink "RoomEchoes" 204 ⟨"RoomEchoes$Axis", "numberAt", "(I)I"⟩ : Cond) ∈ tb := List.mem_filter.mpr ⟨List.mem_of_getElem? (i := 318) (by decide +kernel), by decide +kernel⟩
theorem mw319 : (.methodLink "RoomEchoes" 102 ⟨"RoomEchoes", "keyOf", "(JIII)J"⟩ : Cond) ∈ tb := List.mem_filter.mpr ⟨List.mem_of_getElem? (i := 319) (by decide +kernel), by decide +kernel⟩
theorem mw320 : (.static ⟨"RoomEchoes", "keyOf", "(JIII)J"⟩ : Cond) ∈ tb := List.mem_filter.mpr ⟨List.mem_of_getElem? (i := 320) (by decide +kernel), by decide +kernel⟩
theorem mw321 : (.code ⟨"RoomEchoes", "keyOf", "(JIII)J"⟩ prog_1_method_27_code 7 (some .long) : Cond) ∈ tb := List.mem_filter.mpr ⟨List.mem_of_getElem? (i := 321) (by decide +kernel), by decide +kernel⟩
theorem mw322 : (.methodLink "RoomEchoes" 170 ⟨"RoomEchoes", "withNumberBelow", "(JI)J"⟩ : Cond) ∈ tb := List.mem_filter.mpr ⟨List.mem_of_getElem? (i := 322) (by decide +kernel), by decide +kernel⟩
theorem mw323 : (.methodLink "RoomEchoes" 207 ⟨"RoomEchoes$Frontier", "add", "(J)V"⟩ : Cond) ∈ tb := List.mem_filter.mpr ⟨List.mem_of_getElem? (i := 323) (by decide +kernel), by decide +kernel⟩
theorem mw324 : (.instanceMethod ⟨"RoomEchoes$Frontier", "add", "(J)V"⟩ : Cond) ∈ tb := List.mem_filter.mpr ⟨List.mem_of_getElem? (i := 324) (by decide +kernel), by decide +kernel⟩
theorem mw325 : (.selects "RoomEchoes$Frontier" ⟨"RoomEchoes$Frontier", "add", "(J)V"⟩ ⟨"RoomEchoes$Frontier", "add", "(J)V"⟩ : Cond) ∈ tb := List.mem_filter.mpr ⟨List.mem_of_getElem? (i := 325) (by decide +kernel), by decide +kernel⟩
theorem mw326 : (.code ⟨"RoomEchoes$Frontier", "add", "(J)V"⟩ prog_3_method_3_code 4 none : Cond) ∈ tb := List.mem_filter.mpr ⟨List.mem_of_getElem? (i := 326) (by decide +kernel), by decide +kernel⟩
theorem mw327 : (.methodLink "RoomEchoes" 191 ⟨"RoomEchoes$Frontier", "takeLeast", "()J"⟩ : Cond) ∈ tb := List.mem_filter.mpr ⟨List.mem_of_getElem? (i := 327) (by decide +kernel), by decide +kernel⟩
theorem mw328 : (.instanceMethod ⟨"RoomEchoes$Frontier", "takeLeast", "()J"⟩ : Cond) ∈ tb := List.mem_filter.mpr ⟨List.mem_of_getElem? (i := 328) (by decide +kernel), by decide +kernel⟩
theorem mw329 : (.selects "RoomEchoes$Frontier" ⟨"RoomEchoes$Frontier", "takeLeast", "()J"⟩ ⟨"RoomEchoes$Frontier", "takeLeast", "()J"⟩ : Cond) ∈ tb := List.mem_filter.mpr ⟨List.mem_of_getElem? (i := 329) (by decide +kernel), by decide +kernel⟩
theorem mw330 : (.code ⟨"RoomEchoes$Frontier", "takeLeast", "()J"⟩ prog_3_method_4_code 3 (some .long) : Cond) ∈ tb := List.mem_filter.mpr ⟨List.mem_of_getElem? (i := 330) (by decide +kernel), by decide +kernel⟩
theorem mw331 : (.methodLink "RoomEchoes$Frontier" 19 ⟨"RoomEchoes$Frontier", "sinkFromTop", "(J)V"⟩ : Cond) ∈ tb := List.mem_filter.mpr ⟨List.mem_of_getElem? (i := 331) (by decide +kernel), by decide +kernel⟩
