/-- the good words of the tables: every method of ours is proved over them -/
def tb : List Cond := lw_tbl.filter goodWord
theorem tb_good : ∀ w ∈ tb, goodWord w = true := fun w h => (List.mem_filter.mp h).2
theorem tb_in : ∀ w ∈ tb, w ∈ lw_tbl := fun w h => (List.mem_filter.mp h).1
theorem mw0 : (.selects "RoomEchoes" ⟨"RoomEchoes", "requirePoint", "(III)V"⟩ ⟨"RoomEchoes", "requirePoint", "(III)V"⟩ : Cond) ∈ tb := List.mem_filter.mpr ⟨List.mem_of_getElem? (i := 0) (by decide +kernel), by decide +kernel⟩
theorem mw2 : (.selects "RoomEchoes" ⟨"RoomEchoes", "forgetOrder", "()V"⟩ ⟨"RoomEchoes", "forgetOrder", "()V"⟩ : Cond) ∈ tb := List.mem_filter.mpr ⟨List.mem_of_getElem? (i := 2) (by decide +kernel), by decide +kernel⟩
theorem mw3 : (.selects "RoomEchoes" ⟨"RoomEchoes", "distanceOf", "(III)J"⟩ ⟨"RoomEchoes", "distanceOf", "(III)J"⟩ : Cond) ∈ tb := List.mem_filter.mpr ⟨List.mem_of_getElem? (i := 3) (by decide +kernel), by decide +kernel⟩
theorem mw4 : (.selects "RoomEchoes$Axis" ⟨"RoomEchoes$Axis", "imageAt", "(I)I"⟩ ⟨"RoomEchoes$Axis", "imageAt", "(I)I"⟩ : Cond) ∈ tb := List.mem_filter.mpr ⟨List.mem_of_getElem? (i := 4) (by decide +kernel), by decide +kernel⟩
theorem mw5 : (.selects "RoomEchoes" ⟨"RoomEchoes", "strengthOf", "(III)J"⟩ ⟨"RoomEchoes", "strengthOf", "(III)J"⟩ : Cond) ∈ tb := List.mem_filter.mpr ⟨List.mem_of_getElem? (i := 5) (by decide +kernel), by decide +kernel⟩
theorem mw6 : (.selects "RoomEchoes" ⟨"RoomEchoes", "orderEchoes", "()V"⟩ ⟨"RoomEchoes", "orderEchoes", "()V"⟩ : Cond) ∈ tb := List.mem_filter.mpr ⟨List.mem_of_getElem? (i := 6) (by decide +kernel), by decide +kernel⟩
theorem mw7 : (.selects "RoomEchoes$Axis" ⟨"RoomEchoes$Axis", "insert", "(II)V"⟩ ⟨"RoomEchoes$Axis", "insert", "(II)V"⟩ : Cond) ∈ tb := List.mem_filter.mpr ⟨List.mem_of_getElem? (i := 7) (by decide +kernel), by decide +kernel⟩
theorem mw8 : (.selects "RoomEchoes" ⟨"RoomEchoes", "addAtRanks", "(III)V"⟩ ⟨"RoomEchoes", "addAtRanks", "(III)V"⟩ : Cond) ∈ tb := List.mem_filter.mpr ⟨List.mem_of_getElem? (i := 8) (by decide +kernel), by decide +kernel⟩
theorem mw9 : (.selects "RoomEchoes$Frontier" ⟨"RoomEchoes$Frontier", "sinkFromTop", "(J)V"⟩ ⟨"RoomEchoes$Frontier", "sinkFromTop", "(J)V"⟩ : Cond) ∈ tb := List.mem_filter.mpr ⟨List.mem_of_getElem? (i := 9) (by decide +kernel), by decide +kernel⟩
theorem mw10 : (.selects "RoomEchoes" ⟨"RoomEchoes", "addFollowers", "(J)V"⟩ ⟨"RoomEchoes", "addFollowers", "(J)V"⟩ : Cond) ∈ tb := List.mem_filter.mpr ⟨List.mem_of_getElem? (i := 10) (by decide +kernel), by decide +kernel⟩
theorem mw11 : (.selects "RoomEchoes" ⟨"RoomEchoes", "countWithin", "(J)I"⟩ ⟨"RoomEchoes", "countWithin", "(J)I"⟩ : Cond) ∈ tb := List.mem_filter.mpr ⟨List.mem_of_getElem? (i := 11) (by decide +kernel), by decide +kernel⟩
theorem mw12 : (.selects "RoomEchoes" ⟨"RoomEchoes", "weighEchoes", "()V"⟩ ⟨"RoomEchoes", "weighEchoes", "()V"⟩ : Cond) ∈ tb := List.mem_filter.mpr ⟨List.mem_of_getElem? (i := 12) (by decide +kernel), by decide +kernel⟩
theorem mw13 : (.selects "RoomEchoes" ⟨"RoomEchoes", "loudnessBetween", "(II)J"⟩ ⟨"RoomEchoes", "loudnessBetween", "(II)J"⟩ : Cond) ∈ tb := List.mem_filter.mpr ⟨List.mem_of_getElem? (i := 13) (by decide +kernel), by decide +kernel⟩
theorem mw14 : (.selects "RoomEchoesModel" ⟨"RoomEchoesModel", "isPoint", "(III)Z"⟩ ⟨"RoomEchoesModel", "isPoint", "(III)Z"⟩ : Cond) ∈ tb := List.mem_filter.mpr ⟨List.mem_of_getElem? (i := 14) (by decide +kernel), by decide +kernel⟩
theorem mw15 : (.selects "RoomEchoesModel" ⟨"RoomEchoesModel", "told", "(IIII)J"⟩ ⟨"RoomEchoesModel", "told", "(IIII)J"⟩ : Cond) ∈ tb := List.mem_filter.mpr ⟨List.mem_of_getElem? (i := 15) (by decide +kernel), by decide +kernel⟩
theorem mw16 : (.selects "RoomEchoesModel" ⟨"RoomEchoesModel", "distance", "(III)J"⟩ ⟨"RoomEchoesModel", "distance", "(III)J"⟩ : Cond) ∈ tb := List.mem_filter.mpr ⟨List.mem_of_getElem? (i := 16) (by decide +kernel), by decide +kernel⟩
theorem mw17 : (.selects "RoomEchoesModel" ⟨"RoomEchoesModel", "square", "(II)J"⟩ ⟨"RoomEchoesModel", "square", "(II)J"⟩ : Cond) ∈ tb := List.mem_filter.mpr ⟨List.mem_of_getElem? (i := 17) (by decide +kernel), by decide +kernel⟩
theorem mw18 : (.selects "RoomEchoesModel" ⟨"RoomEchoesModel", "strength", "(III)J"⟩ ⟨"RoomEchoesModel", "strength", "(III)J"⟩ : Cond) ∈ tb := List.mem_filter.mpr ⟨List.mem_of_getElem? (i := 18) (by decide +kernel), by decide +kernel⟩
theorem mw19 : (.selects "RoomEchoesModel" ⟨"RoomEchoesModel", "kept", "(JII)J"⟩ ⟨"RoomEchoesModel", "kept", "(JII)J"⟩ : Cond) ∈ tb := List.mem_filter.mpr ⟨List.mem_of_getElem? (i := 19) (by decide +kernel), by decide +kernel⟩
theorem mw20 : (.selects "RoomEchoesModel" ⟨"RoomEchoesModel", "make", "()V"⟩ ⟨"RoomEchoesModel", "make", "()V"⟩ : Cond) ∈ tb := List.mem_filter.mpr ⟨List.mem_of_getElem? (i := 20) (by decide +kernel), by decide +kernel⟩
theorem mw21 : (.selects "RoomEchoesModel" ⟨"RoomEchoesModel", "prepare", "()V"⟩ ⟨"RoomEchoesModel", "prepare", "()V"⟩ : Cond) ∈ tb := List.mem_filter.mpr ⟨List.mem_of_getElem? (i := 21) (by decide +kernel), by decide +kernel⟩
theorem mw22 : (.selects "RoomEchoesModel" ⟨"RoomEchoesModel", "isEnough", "(J)Z"⟩ ⟨"RoomEchoesModel", "isEnough", "(J)Z"⟩ : Cond) ∈ tb := List.mem_filter.mpr ⟨List.mem_of_getElem? (i := 22) (by decide +kernel), by decide +kernel⟩
theorem mw23 : (.selects "RoomEchoesModel" ⟨"RoomEchoesModel", "collect", "(IJJ)I"⟩ ⟨"RoomEchoesModel", "collect", "(IJJ)I"⟩ : Cond) ∈ tb := List.mem_filter.mpr ⟨List.mem_of_getElem? (i := 23) (by decide +kernel), by decide +kernel⟩
theorem mw24 : (.selects "RoomEchoesModel" ⟨"RoomEchoesModel", "put", "(IJIII)V"⟩ ⟨"RoomEchoesModel", "put", "(IJIII)V"⟩ : Cond) ∈ tb := List.mem_filter.mpr ⟨List.mem_of_getElem? (i := 24) (by decide +kernel), by decide +kernel⟩
theorem mw25 : (.selects "RoomEchoesModel" ⟨"RoomEchoesModel", "countUntil", "(J)I"⟩ ⟨"RoomEchoesModel", "countUntil", "(J)I"⟩ : Cond) ∈ tb := List.mem_filter.mpr ⟨List.mem_of_getElem? (i := 25) (by decide +kernel), by decide +kernel⟩
theorem mw26 : (.selects "RoomEchoesModel" ⟨"RoomEchoesModel", "first", "(I)J"⟩ ⟨"RoomEchoesModel", "first", "(I)J"⟩ : Cond) ∈ tb := List.mem_filter.mpr ⟨List.mem_of_getElem? (i := 26) (by decide +kernel), by decide +kernel⟩
theorem mw27 : (.selects "RoomEchoesModel" ⟨"RoomEchoesModel", "loudness", "(I)J"⟩ ⟨"RoomEchoesModel", "loudness", "(I)J"⟩ : Cond) ∈ tb := List.mem_filter.mpr ⟨List.mem_of_getElem? (i := 27) (by decide +kernel), by decide +kernel⟩
theorem mw28 : (.initialized "RoomEchoesLaw" : Cond) ∈ tb := List.mem_filter.mpr ⟨List.mem_of_getElem? (i := 28) (by decide +kernel), by decide +kernel⟩
theorem mw29 : (.initialized "RoomEchoes" : Cond) ∈ tb := List.mem_filter.mpr ⟨List.mem_of_getElem? (i := 29) (by decide +kernel), by decide +kernel⟩
theorem mw30 : (.initialized "RoomEchoes$Frontier" : Cond) ∈ tb := List.mem_filter.mpr ⟨List.mem_of_getElem? (i := 30) (by decide +kernel), by decide +kernel⟩
theorem mw31 : (.initialized "RoomEchoes$Axis" : Cond) ∈ tb := List.mem_filter.mpr ⟨List.mem_of_getElem? (i := 31) (by decide +kernel), by decide +kernel⟩
theorem mw32 : (.initialized "java/lang/Math" : Cond) ∈ tb := List.mem_filter.mpr ⟨List.mem_of_getElem? (i := 32) (by decide +kernel), by decide +kernel⟩
theorem mw33 : (.initialized "RoomEchoesModel" : Cond) ∈ tb := List.mem_filter.mpr ⟨List.mem_of_getElem? (i := 33) (by decide +kernel), by decide +kernel⟩
theorem mw37 : (.initialized "java/lang/IllegalArgumentException" : Cond) ∈ tb := List.mem_filter.mpr ⟨List.mem_of_getElem? (i := 37) (by decide +kernel), by decide +kernel⟩
theorem mw38 : (.classLink "RoomEchoesLaw" 8 "RoomEchoes" : Cond) ∈ tb := List.mem_filter.mpr ⟨List.mem_of_getElem? (i := 38) (by decide +kernel), by decide +kernel⟩
theorem mw39 : (.instantiable "RoomEchoes" 9 : Cond) ∈ tb := List.mem_filter.mpr ⟨List.mem_of_getElem? (i := 39) (by decide +kernel), by decide +kernel⟩
theorem mw40 : (.methodLink "RoomEchoesLaw" 58 ⟨"RoomEchoes", "<init>", "(III)V"⟩ : Cond) ∈ tb := List.mem_filter.mpr ⟨List.mem_of_getElem? (i := 40) (by decide +kernel), by decide +kernel⟩
theorem mw41 : (.instanceMethod ⟨"RoomEchoes", "<init>", "(III)V"⟩ : Cond) ∈ tb := List.mem_filter.mpr ⟨List.mem_of_getElem? (i := 41) (by decide +kernel), by decide +kernel⟩
theorem mw42 : (.code ⟨"RoomEchoes", "<init>", "(III)V"⟩ prog_1_method_1_code 5 none : Cond) ∈ tb := List.mem_filter.mpr ⟨List.mem_of_getElem? (i := 42) (by decide +kernel), by decide +kernel⟩
theorem mw43 : (.methodLink "RoomEchoes" 3 ⟨"java/lang/Object", "<init>", "()V"⟩ : Cond) ∈ tb := List.mem_filter.mpr ⟨List.mem_of_getElem? (i := 43) (by decide +kernel), by decide +kernel⟩
theorem mw44 : (.instanceMethod ⟨"java/lang/Object", "<init>", "()V"⟩ : Cond) ∈ tb := List.mem_filter.mpr ⟨List.mem_of_getElem? (i := 44) (by decide +kernel), by decide +kernel⟩
theorem mw45 : (.code ⟨"java/lang/Object", "<init>", "()V"⟩ object_method_1_code 1 none : Cond) ∈ tb := List.mem_filter.mpr ⟨List.mem_of_getElem? (i := 45) (by decide +kernel), by decide +kernel⟩
theorem mw46 : (.classLink "RoomEchoes" 13 "RoomEchoes$Frontier" : Cond) ∈ tb := List.mem_filter.mpr ⟨List.mem_of_getElem? (i := 46) (by decide +kernel), by decide +kernel⟩
theorem mw47 : (.instantiable "RoomEchoes$Frontier" 2 : Cond) ∈ tb := List.mem_filter.mpr ⟨List.mem_of_getElem? (i := 47) (by decide +kernel), by decide +kernel⟩
theorem mw49 : (.instanceMethod ⟨"RoomEchoes$Frontier", "<init>", "()V"⟩ : Cond) ∈ tb := List.mem_filter.mpr ⟨List.mem_of_getElem? (i := 49) (by decide +kernel), by decide +kernel⟩
theorem mw50 : (.code ⟨"RoomEchoes$Frontier", "<init>", "()V"⟩ prog_3_method_1_code 1 none : Cond) ∈ tb := List.mem_filter.mpr ⟨List.mem_of_getElem? (i := 50) (by decide +kernel), by decide +kernel⟩
theorem mw51 : (.methodLink "RoomEchoes$Frontier" 3 ⟨"java/lang/Object", "<init>", "()V"⟩ : Cond) ∈ tb := List.mem_filter.mpr ⟨List.mem_of_getElem? (i := 51) (by decide +kernel), by decide +kernel⟩
theorem mw52 : (.fieldLink "RoomEchoes$Frontier" 9 "RoomEchoes$Frontier" "keys" "[J" : Cond) ∈ tb := List.mem_filter.mpr ⟨List.mem_of_getElem? (i := 52) (by decide +kernel), by decide +kernel⟩
theorem mw53 : (.fieldLink "RoomEchoes$Frontier" 15 "RoomEchoes$Frontier" "size" "I" : Cond) ∈ tb := List.mem_filter.mpr ⟨List.mem_of_getElem? (i := 53) (by decide +kernel), by decide +kernel⟩
theorem mw59 : (.arrayClass .int : Cond) ∈ tb := List.mem_filter.mpr ⟨List.mem_of_getElem? (i := 59) (by decide +kernel), by decide +kernel⟩
theorem mw60 : (.arrayClass .long : Cond) ∈ tb := List.mem_filter.mpr ⟨List.mem_of_getElem? (i := 60) (by decide +kernel), by decide +kernel⟩
theorem mw61 : (.classLink "RoomEchoes" 27 "RoomEchoes$Axis" : Cond) ∈ tb := List.mem_filter.mpr ⟨List.mem_of_getElem? (i := 61) (by decide +kernel), by decide +kernel⟩
theorem mw62 : (.instantiable "RoomEchoes$Axis" 5 : Cond) ∈ tb := List.mem_filter.mpr ⟨List.mem_of_getElem? (i := 62) (by decide +kernel), by decide +kernel⟩
theorem mw63 : (.methodLink "RoomEchoes" 29 ⟨"RoomEchoes", "sizeWithin", "(I)I"⟩ : Cond) ∈ tb := List.mem_filter.mpr ⟨List.mem_of_getElem? (i := 63) (by decide +kernel), by decide +kernel⟩
theorem mw64 : (.static ⟨"RoomEchoes", "sizeWithin", "(I)I"⟩ : Cond) ∈ tb := List.mem_filter.mpr ⟨List.mem_of_getElem? (i := 64) (by decide +kernel), by decide +kernel⟩
theorem mw65 : (.code ⟨"RoomEchoes", "sizeWithin", "(I)I"⟩ prog_1_method_13_code 1 (some .int) : Cond) ∈ tb := List.mem_filter.mpr ⟨List.mem_of_getElem? (i := 65) (by decide +kernel), by decide +kernel⟩
theorem mw66 : (.methodLink "RoomEchoes" 127 ⟨"java/lang/Math", "min", "(II)I"⟩ : Cond) ∈ tb := List.mem_filter.mpr ⟨List.mem_of_getElem? (i := 66) (by decide +kernel), by decide +kernel⟩
theorem mw67 : (.static ⟨"java/lang/Math", "min", "(II)I"⟩ : Cond) ∈ tb := List.mem_filter.mpr ⟨List.mem_of_getElem? (i := 67) (by decide +kernel), by decide +kernel⟩
theorem mw68 : (.code ⟨"java/lang/Math", "min", "(II)I"⟩ prog_8_method_69_code 2 (some .int) : Cond) ∈ tb := List.mem_filter.mpr ⟨List.mem_of_getElem? (i := 68) (by decide +kernel), by decide +kernel⟩
theorem mw69 : (.methodLink "RoomEchoes" 133 ⟨"java/lang/Math", "max", "(II)I"⟩ : Cond) ∈ tb := List.mem_filter.mpr ⟨List.mem_of_getElem? (i := 69) (by decide +kernel), by decide +kernel⟩
theorem mw70 : (.static ⟨"java/lang/Math", "max", "(II)I"⟩ : Cond) ∈ tb := List.mem_filter.mpr ⟨List.mem_of_getElem? (i := 70) (by decide +kernel), by decide +kernel⟩
theorem mw71 : (.code ⟨"java/lang/Math", "max", "(II)I"⟩ prog_8_method_65_code 2 (some .int) : Cond) ∈ tb := List.mem_filter.mpr ⟨List.mem_of_getElem? (i := 71) (by decide +kernel), by decide +kernel⟩
theorem mw72 : (.methodLink "RoomEchoes" 33 ⟨"RoomEchoes$Axis", "<init>", "(I)V"⟩ : Cond) ∈ tb := List.mem_filter.mpr ⟨List.mem_of_getElem? (i := 72) (by decide +kernel), by decide +kernel⟩
theorem mw73 : (.instanceMethod ⟨"RoomEchoes$Axis", "<init>", "(I)V"⟩ : Cond) ∈ tb := List.mem_filter.mpr ⟨List.mem_of_getElem? (i := 73) (by decide +kernel), by decide +kernel⟩
theorem mw74 : (.code ⟨"RoomEchoes$Axis", "<init>", "(I)V"⟩ prog_2_method_1_code 2 none : Cond) ∈ tb := List.mem_filter.mpr ⟨List.mem_of_getElem? (i := 74) (by decide +kernel), by decide +kernel⟩
theorem mw75 : (.methodLink "RoomEchoes$Axis" 3 ⟨"java/lang/Object", "<init>", "()V"⟩ : Cond) ∈ tb := List.mem_filter.mpr ⟨List.mem_of_getElem? (i := 75) (by decide +kernel), by decide +kernel⟩
theorem mw76 : (.fieldLink "RoomEchoes$Axis" 19 "RoomEchoes$Axis" "size" "I" : Cond) ∈ tb := List.mem_filter.mpr ⟨List.mem_of_getElem? (i := 76) (by decide +kernel), by decide +kernel⟩
theorem mw77 : (.fieldLink "RoomEchoes" 145 "RoomEchoes$Axis" "size" "I" : Cond) ∈ tb := List.mem_filter.mpr ⟨List.mem_of_getElem? (i := 77) (by decide +kernel), by decide +kernel⟩
theorem mw78 : (.fieldLink "RoomEchoes" 50 "RoomEchoes$Axis" "sourceAt" "I" : Cond) ∈ tb := List.mem_filter.mpr ⟨List.mem_of_getElem? (i := 78) (by decide +kernel), by decide +kernel⟩
theorem mw79 : (.fieldLink "RoomEchoes$Axis" 30 "RoomEchoes$Axis" "sourceAt" "I" : Cond) ∈ tb := List.mem_filter.mpr ⟨List.mem_of_getElem? (i := 79) (by decide +kernel), by decide +kernel⟩
theorem mw80 : (.fieldLink "RoomEchoes$Axis" 27 "RoomEchoes$Axis" "listenerAt" "I" : Cond) ∈ tb := List.mem_filter.mpr ⟨List.mem_of_getElem? (i := 80) (by decide +kernel), by decide +kernel⟩
theorem mw81 : (.fieldLink "RoomEchoes" 57 "RoomEchoes$Axis" "listenerAt" "I" : Cond) ∈ tb := List.mem_filter.mpr ⟨List.mem_of_getElem? (i := 81) (by decide +kernel), by decide +kernel⟩
theorem mw82 : (.fieldLink "RoomEchoes$Axis" 9 "RoomEchoes$Axis" "ranked" "[J" : Cond) ∈ tb := List.mem_filter.mpr ⟨List.mem_of_getElem? (i := 82) (by decide +kernel), by decide +kernel⟩
theorem mw83 : (.fieldLink "RoomEchoes$Axis" 15 "RoomEchoes$Axis" "ranks" "[I" : Cond) ∈ tb := List.mem_filter.mpr ⟨List.mem_of_getElem? (i := 83) (by decide +kernel), by decide +kernel⟩
theorem mw95 : (.fieldLink "RoomEchoes" 36 "RoomEchoes" "first" "LRoomEchoes$Axis;" : Cond) ∈ tb := List.mem_filter.mpr ⟨List.mem_of_getElem? (i := 95) (by decide +kernel), by decide +kernel⟩
theorem mw96 : (.fieldLink "RoomEchoes" 40 "RoomEchoes" "second" "LRoomEchoes$Axis;" : Cond) ∈ tb := List.mem_filter.mpr ⟨List.mem_of_getElem? (i := 96) (by decide +kernel), by decide +kernel⟩
theorem mw97 : (.fieldLink "RoomEchoes" 43 "RoomEchoes" "third" "LRoomEchoes$Axis;" : Cond) ∈ tb := List.mem_filter.mpr ⟨List.mem_of_getElem? (i := 97) (by decide +kernel), by decide +kernel⟩
theorem mw98 : (.fieldLink "RoomEchoes" 9 "RoomEchoes" "kept" "[I" : Cond) ∈ tb := List.mem_filter.mpr ⟨List.mem_of_getElem? (i := 98) (by decide +kernel), by decide +kernel⟩
theorem mw99 : (.fieldLink "RoomEchoes" 16 "RoomEchoes" "frontier" "LRoomEchoes$Frontier;" : Cond) ∈ tb := List.mem_filter.mpr ⟨List.mem_of_getElem? (i := 99) (by decide +kernel), by decide +kernel⟩
theorem mw100 : (.fieldLink "RoomEchoes" 20 "RoomEchoes" "echoKeys" "[J" : Cond) ∈ tb := List.mem_filter.mpr ⟨List.mem_of_getElem? (i := 100) (by decide +kernel), by decide +kernel⟩
theorem mw101 : (.fieldLink "RoomEchoes" 24 "RoomEchoes" "loudnesses" "[J" : Cond) ∈ tb := List.mem_filter.mpr ⟨List.mem_of_getElem? (i := 101) (by decide +kernel), by decide +kernel⟩
theorem mw102 : (.fieldLink "RoomEchoes" 179 "RoomEchoes" "ordered" "Z" : Cond) ∈ tb := List.mem_filter.mpr ⟨List.mem_of_getElem? (i := 102) (by decide +kernel), by decide +kernel⟩
theorem mw103 : (.fieldLink "RoomEchoes" 63 "RoomEchoes" "weighed" "Z" : Cond) ∈ tb := List.mem_filter.mpr ⟨List.mem_of_getElem? (i := 103) (by decide +kernel), by decide +kernel⟩
theorem mw123 : (.methodLink "RoomEchoesLaw" 52 ⟨"RoomEchoesLaw", "cell", "([II)I"⟩ : Cond) ∈ tb := List.mem_filter.mpr ⟨List.mem_of_getElem? (i := 123) (by decide +kernel), by decide +kernel⟩
theorem mw124 : (.static ⟨"RoomEchoesLaw", "cell", "([II)I"⟩ : Cond) ∈ tb := List.mem_filter.mpr ⟨List.mem_of_getElem? (i := 124) (by decide +kernel), by decide +kernel⟩
theorem mw125 : (.code ⟨"RoomEchoesLaw", "cell", "([II)I"⟩ method_2_code 2 (some .int) : Cond) ∈ tb := List.mem_filter.mpr ⟨List.mem_of_getElem? (i := 125) (by decide +kernel), by decide +kernel⟩
theorem mw126 : (.methodLink "RoomEchoesLaw" 63 ⟨"RoomEchoesLaw", "source", "(LRoomEchoes;III)I"⟩ : Cond) ∈ tb := List.mem_filter.mpr ⟨List.mem_of_getElem? (i := 126) (by decide +kernel), by decide +kernel⟩
theorem mw127 : (.static ⟨"RoomEchoesLaw", "source", "(LRoomEchoes;III)I"⟩ : Cond) ∈ tb := List.mem_filter.mpr ⟨List.mem_of_getElem? (i := 127) (by decide +kernel), by decide +kernel⟩
theorem mw128 : (.codeWith ⟨"RoomEchoesLaw", "source", "(LRoomEchoes;III)I"⟩ method_3_code 5 (some .int) [(0, 7, 10, 13)] : Cond) ∈ tb := List.mem_filter.mpr ⟨List.mem_of_getElem? (i := 128) (by decide +kernel), by decide +kernel⟩
theorem mw129 : (.classLink "RoomEchoesLaw" 13 "java/lang/IllegalArgumentException" : Cond) ∈ tb := List.mem_filter.mpr ⟨List.mem_of_getElem? (i := 129) (by decide +kernel), by decide +kernel⟩
theorem mw130 : (.methodLink "RoomEchoesLaw" 7 ⟨"RoomEchoes", "source", "(III)V"⟩ : Cond) ∈ tb := List.mem_filter.mpr ⟨List.mem_of_getElem? (i := 130) (by decide +kernel), by decide +kernel⟩
theorem mw131 : (.instanceMethod ⟨"RoomEchoes", "source", "(III)V"⟩ : Cond) ∈ tb := List.mem_filter.mpr ⟨List.mem_of_getElem? (i := 131) (by decide +kernel), by decide +kernel⟩
theorem mw132 : (.selects "RoomEchoes" ⟨"RoomEchoes", "source", "(III)V"⟩ ⟨"RoomEchoes", "source", "(III)V"⟩ : Cond) ∈ tb := List.mem_filter.mpr ⟨List.mem_of_getElem? (i := 132) (by decide +kernel), by decide +kernel⟩
theorem mw133 : (.code ⟨"RoomEchoes", "source", "(III)V"⟩ prog_1_method_2_code 4 none : Cond) ∈ tb := List.mem_filter.mpr ⟨List.mem_of_getElem? (i := 133) (by decide +kernel), by decide +kernel⟩
theorem mw134 : (.methodLink "RoomEchoes" 46 ⟨"RoomEchoes", "requirePoint", "(III)V"⟩ : Cond) ∈ tb := List.mem_filter.mpr ⟨List.mem_of_getElem? (i := 134) (by decide +kernel), by decide +kernel⟩
theorem mw136 : (.instanceMethod ⟨"RoomEchoes", "requirePoint", "(III)V"⟩ : Cond) ∈ tb := List.mem_filter.mpr ⟨List.mem_of_getElem? (i := 136) (by decide +kernel), by decide +kernel⟩
theorem mw137 : (.code ⟨"RoomEchoes", "requirePoint", "(III)V"⟩ prog_1_method_17_code 4 none : Cond) ∈ tb := List.mem_filter.mpr ⟨List.mem_of_getElem? (i := 137) (by decide +kernel), by decide +kernel⟩
theorem mw138 : (.methodLink "RoomEchoes" 60 ⟨"RoomEchoes", "requireWithin", "(III)V"⟩ : Cond) ∈ tb := List.mem_filter.mpr ⟨List.mem_of_getElem? (i := 138) (by decide +kernel), by decide +kernel⟩
theorem mw139 : (.static ⟨"RoomEchoes", "requireWithin", "(III)V"⟩ : Cond) ∈ tb := List.mem_filter.mpr ⟨List.mem_of_getElem? (i := 139) (by decide +kernel), by decide +kernel⟩
theorem mw140 : (.code ⟨"RoomEchoes", "requireWithin", "(III)V"⟩ prog_1_method_14_code 3 none : Cond) ∈ tb := List.mem_filter.mpr ⟨List.mem_of_getElem? (i := 140) (by decide +kernel), by decide +kernel⟩
theorem mw141 : (.classLink "RoomEchoes" 136 "java/lang/IllegalArgumentException" : Cond) ∈ tb := List.mem_filter.mpr ⟨List.mem_of_getElem? (i := 141) (by decide +kernel), by decide +kernel⟩
theorem mw142 : (.instantiable "java/lang/IllegalArgumentException" 6 : Cond) ∈ tb := List.mem_filter.mpr ⟨List.mem_of_getElem? (i := 142) (by decide +kernel), by decide +kernel⟩
theorem mw181 : (.methodLink "RoomEchoes" 140 ⟨"java/lang/IllegalArgumentException", "<init>", "(Ljava/lang/String;)V"⟩ : Cond) ∈ tb := List.mem_filter.mpr ⟨List.mem_of_getElem? (i := 181) (by decide +kernel), by decide +kernel⟩
theorem mw182 : (.instanceMethod ⟨"java/lang/IllegalArgumentException", "<init>", "(Ljava/lang/String;)V"⟩ : Cond) ∈ tb := List.mem_filter.mpr ⟨List.mem_of_getElem? (i := 182) (by decide +kernel), by decide +kernel⟩
theorem mw183 : (.code ⟨"java/lang/IllegalArgumentException", "<init>", "(Ljava/lang/String;)V"⟩ prog_7_method_2_code 2 none : Cond) ∈ tb := List.mem_filter.mpr ⟨List.mem_of_getElem? (i := 183) (by decide +kernel), by decide +kernel⟩
theorem mw206 : (.arrayClass .byte : Cond) ∈ tb := List.mem_filter.mpr ⟨List.mem_of_getElem? (i := 206) (by decide +kernel), by decide +kernel⟩
theorem mw207 : (.methodLink "RoomEchoes" 54 ⟨"RoomEchoes", "forgetOrder", "()V"⟩ : Cond) ∈ tb := List.mem_filter.mpr ⟨List.mem_of_getElem? (i := 207) (by decide +kernel), by decide +kernel⟩
theorem mw209 : (.instanceMethod ⟨"RoomEchoes", "forgetOrder", "()V"⟩ : Cond) ∈ tb := List.mem_filter.mpr ⟨List.mem_of_getElem? (i := 209) (by decide +kernel), by decide +kernel⟩
theorem mw210 : (.code ⟨"RoomEchoes", "forgetOrder", "()V"⟩ prog_1_method_34_code 1 none : Cond) ∈ tb := List.mem_filter.mpr ⟨List.mem_of_getElem? (i := 210) (by decide +kernel), by decide +kernel⟩
theorem mw211 : (.methodLink "RoomEchoesLaw" 71 ⟨"RoomEchoesLaw", "listener", "(LRoomEchoes;III)I"⟩ : Cond) ∈ tb := List.mem_filter.mpr ⟨List.mem_of_getElem? (i := 211) (by decide +kernel), by decide +kernel⟩
theorem mw212 : (.static ⟨"RoomEchoesLaw", "listener", "(LRoomEchoes;III)I"⟩ : Cond) ∈ tb := List.mem_filter.mpr ⟨List.mem_of_getElem? (i := 212) (by decide +kernel), by decide +kernel⟩
theorem mw213 : (.codeWith ⟨"RoomEchoesLaw", "listener", "(LRoomEchoes;III)I"⟩ method_4_code 5 (some .int) [(0, 7, 10, 13)] : Cond) ∈ tb := List.mem_filter.mpr ⟨List.mem_of_getElem? (i := 213) (by decide +kernel), by decide +kernel⟩
theorem mw214 : (.methodLink "RoomEchoesLaw" 15 ⟨"RoomEchoes", "listener", "(III)V"⟩ : Cond) ∈ tb := List.mem_filter.mpr ⟨List.mem_of_getElem? (i := 214) (by decide +kernel), by decide +kernel⟩
theorem mw215 : (.instanceMethod ⟨"RoomEchoes", "listener", "(III)V"⟩ : Cond) ∈ tb := List.mem_filter.mpr ⟨List.mem_of_getElem? (i := 215) (by decide +kernel), by decide +kernel⟩
theorem mw216 : (.selects "RoomEchoes" ⟨"RoomEchoes", "listener", "(III)V"⟩ ⟨"RoomEchoes", "listener", "(III)V"⟩ : Cond) ∈ tb := List.mem_filter.mpr ⟨List.mem_of_getElem? (i := 216) (by decide +kernel), by decide +kernel⟩
theorem mw217 : (.code ⟨"RoomEchoes", "listener", "(III)V"⟩ prog_1_method_3_code 4 none : Cond) ∈ tb := List.mem_filter.mpr ⟨List.mem_of_getElem? (i := 217) (by decide +kernel), by decide +kernel⟩
theorem mw218 : (.methodLink "RoomEchoesLaw" 74 ⟨"RoomEchoesLaw", "keeps", "(LRoomEchoes;II[J)I"⟩ : Cond) ∈ tb := List.mem_filter.mpr ⟨List.mem_of_getElem? (i := 218) (by decide +kernel), by decide +kernel⟩
theorem mw219 : (.static ⟨"RoomEchoesLaw", "keeps", "(LRoomEchoes;II[J)I"⟩ : Cond) ∈ tb := List.mem_filter.mpr ⟨List.mem_of_getElem? (i := 219) (by decide +kernel), by decide +kernel⟩
theorem mw220 : (.codeWith ⟨"RoomEchoesLaw", "keeps", "(LRoomEchoes;II[J)I"⟩ method_5_code 5 (some .int) [(0, 10, 13, 13)] : Cond) ∈ tb := List.mem_filter.mpr ⟨List.mem_of_getElem? (i := 220) (by decide +kernel), by decide +kernel⟩
theorem mw221 : (.methodLink "RoomEchoesLaw" 18 ⟨"RoomEchoes", "keeps", "(II)I"⟩ : Cond) ∈ tb := List.mem_filter.mpr ⟨List.mem_of_getElem? (i := 221) (by decide +kernel), by decide +kernel⟩
theorem mw222 : (.instanceMethod ⟨"RoomEchoes", "keeps", "(II)I"⟩ : Cond) ∈ tb := List.mem_filter.mpr ⟨List.mem_of_getElem? (i := 222) (by decide +kernel), by decide +kernel⟩
theorem mw223 : (.selects "RoomEchoes" ⟨"RoomEchoes", "keeps", "(II)I"⟩ ⟨"RoomEchoes", "keeps", "(II)I"⟩ : Cond) ∈ tb := List.mem_filter.mpr ⟨List.mem_of_getElem? (i := 223) (by decide +kernel), by decide +kernel⟩
theorem mw224 : (.code ⟨"RoomEchoes", "keeps", "(II)I"⟩ prog_1_method_4_code 4 (some .int) : Cond) ∈ tb := List.mem_filter.mpr ⟨List.mem_of_getElem? (i := 224) (by decide +kernel), by decide +kernel⟩
theorem mw225 : (.methodLink "RoomEchoesLaw" 78 ⟨"RoomEchoesLaw", "image", "(LRoomEchoes;IIII[J)I"⟩ : Cond) ∈ tb := List.mem_filter.mpr ⟨List.mem_of_getElem? (i := 225) (by decide +kernel), by decide +kernel⟩
theorem mw226 : (.static ⟨"RoomEchoesLaw", "image", "(LRoomEchoes;IIII[J)I"⟩ : Cond) ∈ tb := List.mem_filter.mpr ⟨List.mem_of_getElem? (i := 226) (by decide +kernel), by decide +kernel⟩
theorem mw227 : (.codeWith ⟨"RoomEchoesLaw", "image", "(LRoomEchoes;IIII[J)I"⟩ method_6_code 7 (some .int) [(0, 13, 16, 13)] : Cond) ∈ tb := List.mem_filter.mpr ⟨List.mem_of_getElem? (i := 227) (by decide +kernel), by decide +kernel⟩
theorem mw228 : (.methodLink "RoomEchoesLaw" 22 ⟨"RoomEchoes", "image", "(IIII)J"⟩ : Cond) ∈ tb := List.mem_filter.mpr ⟨List.mem_of_getElem? (i := 228) (by decide +kernel), by decide +kernel⟩
theorem mw229 : (.instanceMethod ⟨"RoomEchoes", "image", "(IIII)J"⟩ : Cond) ∈ tb := List.mem_filter.mpr ⟨List.mem_of_getElem? (i := 229) (by decide +kernel), by decide +kernel⟩
theorem mw230 : (.selects "RoomEchoes" ⟨"RoomEchoes", "image", "(IIII)J"⟩ ⟨"RoomEchoes", "image", "(IIII)J"⟩ : Cond) ∈ tb := List.mem_filter.mpr ⟨List.mem_of_getElem? (i := 230) (by decide +kernel), by decide +kernel⟩
theorem mw231 : (.code ⟨"RoomEchoes", "image", "(IIII)J"⟩ prog_1_method_5_code 5 (some .long) : Cond) ∈ tb := List.mem_filter.mpr ⟨List.mem_of_getElem? (i := 231) (by decide +kernel), by decide +kernel⟩
theorem mw232 : (.methodLink "RoomEchoes" 67 ⟨"RoomEchoes", "requireNumbers", "(III)V"⟩ : Cond) ∈ tb := List.mem_filter.mpr ⟨List.mem_of_getElem? (i := 232) (by decide +kernel), by decide +kernel⟩
theorem mw233 : (.static ⟨"RoomEchoes", "requireNumbers", "(III)V"⟩ : Cond) ∈ tb := List.mem_filter.mpr ⟨List.mem_of_getElem? (i := 233) (by decide +kernel), by decide +kernel⟩
theorem mw234 : (.code ⟨"RoomEchoes", "requireNumbers", "(III)V"⟩ prog_1_method_16_code 3 none : Cond) ∈ tb := List.mem_filter.mpr ⟨List.mem_of_getElem? (i := 234) (by decide +kernel), by decide +kernel⟩
theorem mw235 : (.methodLink "RoomEchoes" 70 ⟨"RoomEchoes", "distanceOf", "(III)J"⟩ : Cond) ∈ tb := List.mem_filter.mpr ⟨List.mem_of_getElem? (i := 235) (by decide +kernel), by decide +kernel⟩
theorem mw237 : (.instanceMethod ⟨"RoomEchoes", "distanceOf", "(III)J"⟩ : Cond) ∈ tb := List.mem_filter.mpr ⟨List.mem_of_getElem? (i := 237) (by decide +kernel), by decide +kernel⟩
theorem mw238 : (.code ⟨"RoomEchoes", "distanceOf", "(III)J"⟩ prog_1_method_18_code 4 (some .long) : Cond) ∈ tb := List.mem_filter.mpr ⟨List.mem_of_getElem? (i := 238) (by decide +kernel), by decide +kernel⟩
theorem mw239 : (.methodLink "RoomEchoes" 148 ⟨"RoomEchoes$Axis", "squareTo", "(I)J"⟩ : Cond) ∈ tb := List.mem_filter.mpr ⟨List.mem_of_getElem? (i := 239) (by decide +kernel), by decide +kernel⟩
theorem mw240 : (.instanceMethod ⟨"RoomEchoes$Axis", "squareTo", "(I)J"⟩ : Cond) ∈ tb := List.mem_filter.mpr ⟨List.mem_of_getElem? (i := 240) (by decide +kernel), by decide +kernel⟩
theorem mw241 : (.selects "RoomEchoes$Axis" ⟨"RoomEchoes$Axis", "squareTo", "(I)J"⟩ ⟨"RoomEchoes$Axis", "squareTo", "(I)J"⟩ : Cond) ∈ tb := List.mem_filter.mpr ⟨List.mem_of_getElem? (i := 241) (by decide +kernel), by decide +kernel⟩
theorem mw242 : (.code ⟨"RoomEchoes$Axis", "squareTo", "(I)J"⟩ prog_2_method_2_code 4 (some .long) : Cond) ∈ tb := List.mem_filter.mpr ⟨List.mem_of_getElem? (i := 242) (by decide +kernel), by decide +kernel⟩
theorem mw243 : (.methodLink "RoomEchoes$Axis" 23 ⟨"RoomEchoes$Axis", "imageAt", "(I)I"⟩ : Cond) ∈ tb := List.mem_filter.mpr ⟨List.mem_of_getElem? (i := 243) (by decide +kernel), by decide +kernel⟩
theorem mw245 : (.instanceMethod ⟨"RoomEchoes$Axis", "imageAt", "(I)I"⟩ : Cond) ∈ tb := List.mem_filter.mpr ⟨List.mem_of_getElem? (i := 245) (by decide +kernel), by decide +kernel⟩
theorem mw246 : (.code ⟨"RoomEchoes$Axis", "imageAt", "(I)I"⟩ prog_2_method_3_code 3 (some .int) : Cond) ∈ tb := List.mem_filter.mpr ⟨List.mem_of_getElem? (i := 246) (by decide +kernel), by decide +kernel⟩
theorem mw247 : (.methodLink "RoomEchoes" 74 ⟨"RoomEchoes", "strengthOf", "(III)J"⟩ : Cond) ∈ tb := List.mem_filter.mpr ⟨List.mem_of_getElem? (i := 247) (by decide +kernel), by decide +kernel⟩
theorem mw249 : (.instanceMethod ⟨"RoomEchoes", "strengthOf", "(III)J"⟩ : Cond) ∈ tb := List.mem_filter.mpr ⟨List.mem_of_getElem? (i := 249) (by decide +kernel), by decide +kernel⟩
theorem mw250 : (.code ⟨"RoomEchoes", "strengthOf", "(III)J"⟩ prog_1_method_19_code 8 (some .long) : Cond) ∈ tb := List.mem_filter.mpr ⟨List.mem_of_getElem? (i := 250) (by decide +kernel), by decide +kernel⟩
theorem mw251 : (.constantLong "RoomEchoes" 152 1000000000 : Cond) ∈ tb := List.mem_filter.mpr ⟨List.mem_of_getElem? (i := 251) (by decide +kernel), by decide +kernel⟩
theorem mw252 : (.methodLink "RoomEchoes" 154 ⟨"RoomEchoes", "strengthAfterAxis", "(JIII)J"⟩ : Cond) ∈ tb := List.mem_filter.mpr ⟨List.mem_of_getElem? (i := 252) (by decide +kernel), by decide +kernel⟩
theorem mw253 : (.static ⟨"RoomEchoes", "strengthAfterAxis", "(JIII)J"⟩ : Cond) ∈ tb := List.mem_filter.mpr ⟨List.mem_of_getElem? (i := 253) (by decide +kernel), by decide +kernel⟩
theorem mw254 : (.code ⟨"RoomEchoes", "strengthAfterAxis", "(JIII)J"⟩ prog_1_method_20_code 7 (some .long) : Cond) ∈ tb := List.mem_filter.mpr ⟨List.mem_of_getElem? (i := 254) (by decide +kernel), by decide +kernel⟩
theorem mw255 : (.methodLink "RoomEchoes" 157 ⟨"RoomEchoes", "hitsAtZero", "(I)I"⟩ : Cond) ∈ tb := List.mem_filter.mpr ⟨List.mem_of_getElem? (i := 255) (by decide +kernel), by decide +kernel⟩
theorem mw256 : (.static ⟨"RoomEchoes", "hitsAtZero", "(I)I"⟩ : Cond) ∈ tb := List.mem_filter.mpr ⟨List.mem_of_getElem? (i := 256) (by decide +kernel), by decide +kernel⟩
theorem mw257 : (.code ⟨"RoomEchoes", "hitsAtZero", "(I)I"⟩ prog_1_method_22_code 1 (some .int) : Cond) ∈ tb := List.mem_filter.mpr ⟨List.mem_of_getElem? (i := 257) (by decide +kernel), by decide +kernel⟩
theorem mw258 : (.methodLink "RoomEchoes" 160 ⟨"RoomEchoes", "strengthAfterHits", "(JII)J"⟩ : Cond) ∈ tb := List.mem_filter.mpr ⟨List.mem_of_getElem? (i := 258) (by decide +kernel), by decide +kernel⟩
theorem mw259 : (.static ⟨"RoomEchoes", "strengthAfterHits", "(JII)J"⟩ : Cond) ∈ tb := List.mem_filter.mpr ⟨List.mem_of_getElem? (i := 259) (by decide +kernel), by decide +kernel⟩
theorem mw260 : (.code ⟨"RoomEchoes", "strengthAfterHits", "(JII)J"⟩ prog_1_method_21_code 7 (some .long) : Cond) ∈ tb := List.mem_filter.mpr ⟨List.mem_of_getElem? (i := 260) (by decide +kernel), by decide +kernel⟩
theorem mw261 : (.constantLong "RoomEchoes" 123 1000 : Cond) ∈ tb := List.mem_filter.mpr ⟨List.mem_of_getElem? (i := 261) (by decide +kernel), by decide +kernel⟩
theorem mw262 : (.methodLink "RoomEchoes" 164 ⟨"RoomEchoes", "hitsAtSize", "(I)I"⟩ : Cond) ∈ tb := List.mem_filter.mpr ⟨List.mem_of_getElem? (i := 262) (by decide +kernel), by decide +kernel⟩
theorem mw263 : (.static ⟨"RoomEchoes", "hitsAtSize", "(I)I"⟩ : Cond) ∈ tb := List.mem_filter.mpr ⟨List.mem_of_getElem? (i := 263) (by decide +kernel), by decide +kernel⟩
theorem mw264 : (.code ⟨"RoomEchoes", "hitsAtSize", "(I)I"⟩ prog_1_method_23_code 1 (some .int) : Cond) ∈ tb := List.mem_filter.mpr ⟨List.mem_of_getElem? (i := 264) (by decide +kernel), by decide +kernel⟩
theorem mw265 : (.methodLink "RoomEchoes" 77 ⟨"RoomEchoes", "loudnessOf", "(JJ)J"⟩ : Cond) ∈ tb := List.mem_filter.mpr ⟨List.mem_of_getElem? (i := 265) (by decide +kernel), by decide +kernel⟩
theorem mw266 : (.static ⟨"RoomEchoes", "loudnessOf", "(JJ)J"⟩ : Cond) ∈ tb := List.mem_filter.mpr ⟨List.mem_of_getElem? (i := 266) (by decide +kernel), by decide +kernel⟩
theorem mw267 : (.code ⟨"RoomEchoes", "loudnessOf", "(JJ)J"⟩ prog_1_method_26_code 6 (some .long) : Cond) ∈ tb := List.mem_filter.mpr ⟨List.mem_of_getElem? (i := 267) (by decide +kernel), by decide +kernel⟩
theorem mw268 : (.methodLink "RoomEchoes" 81 ⟨"RoomEchoes", "hitsOf", "(III)I"⟩ : Cond) ∈ tb := List.mem_filter.mpr ⟨List.mem_of_getElem? (i := 268) (by decide +kernel), by decide +kernel⟩
theorem mw269 : (.static ⟨"RoomEchoes", "hitsOf", "(III)I"⟩ : Cond) ∈ tb := List.mem_filter.mpr ⟨List.mem_of_getElem? (i := 269) (by decide +kernel), by decide +kernel⟩
theorem mw270 : (.code ⟨"RoomEchoes", "hitsOf", "(III)I"⟩ prog_1_method_25_code 3 (some .int) : Cond) ∈ tb := List.mem_filter.mpr ⟨List.mem_of_getElem? (i := 270) (by decide +kernel), by decide +kernel⟩
theorem mw271 : (.methodLink "RoomEchoes" 167 ⟨"RoomEchoes", "hitsOn", "(I)I"⟩ : Cond) ∈ tb := List.mem_filter.mpr ⟨List.mem_of_getElem? (i := 271) (by decide +kernel), by decide +kernel⟩
theorem mw272 : (.static ⟨"RoomEchoes", "hitsOn", "(I)I"⟩ : Cond) ∈ tb := List.mem_filter.mpr ⟨List.mem_of_getElem? (i := 272) (by decide +kernel), by decide +kernel⟩
theorem mw273 : (.code ⟨"RoomEchoes", "hitsOn", "(I)I"⟩ prog_1_method_24_code 1 (some .int) : Cond) ∈ tb := List.mem_filter.mpr ⟨List.mem_of_getElem? (i := 273) (by decide +kernel), by decide +kernel⟩
theorem mw274 : (.methodLink "RoomEchoesLaw" 82 ⟨"RoomEchoesLaw", "echo", "(LRoomEchoes;II[J)I"⟩ : Cond) ∈ tb := List.mem_filter.mpr ⟨List.mem_of_getElem? (i := 274) (by decide +kernel), by decide +kernel⟩
theorem mw275 : (.static ⟨"RoomEchoesLaw", "echo", "(LRoomEchoes;II[J)I"⟩ : Cond) ∈ tb := List.mem_filter.mpr ⟨List.mem_of_getElem? (i := 275) (by decide +kernel), by decide +kernel⟩
theorem mw276 : (.codeWith ⟨"RoomEchoesLaw", "echo", "(LRoomEchoes;II[J)I"⟩ method_7_code 5 (some .int) [(0, 9, 12, 13)] : Cond) ∈ tb := List.mem_filter.mpr ⟨List.mem_of_getElem? (i := 276) (by decide +kernel), by decide +kernel⟩
theorem mw277 : (.methodLink "RoomEchoesLaw" 26 ⟨"RoomEchoes", "echo", "(II)J"⟩ : Cond) ∈ tb := List.mem_filter.mpr ⟨List.mem_of_getElem? (i := 277) (by decide +kernel), by decide +kernel⟩
theorem mw278 : (.instanceMethod ⟨"RoomEchoes", "echo", "(II)J"⟩ : Cond) ∈ tb := List.mem_filter.mpr ⟨List.mem_of_getElem? (i := 278) (by decide +kernel), by decide +kernel⟩
theorem mw279 : (.selects "RoomEchoes" ⟨"RoomEchoes", "echo", "(II)J"⟩ ⟨"RoomEchoes", "echo", "(II)J"⟩ : Cond) ∈ tb := List.mem_filter.mpr ⟨List.mem_of_getElem? (i := 279) (by decide +kernel), by decide +kernel⟩
theorem mw280 : (.code ⟨"RoomEchoes", "echo", "(II)J"⟩ prog_1_method_6_code 8 (some .long) : Cond) ∈ tb := List.mem_filter.mpr ⟨List.mem_of_getElem? (i := 280) (by decide +kernel), by decide +kernel⟩
theorem mw281 : (.methodLink "RoomEchoes" 85 ⟨"RoomEchoes", "orderEchoes", "()V"⟩ : Cond) ∈ tb := List.mem_filter.mpr ⟨List.mem_of_getElem? (i := 281) (by decide +kernel), by decide +kernel⟩
theorem mw283 : (.instanceMethod ⟨"RoomEchoes", "orderEchoes", "()V"⟩ : Cond) ∈ tb := List.mem_filter.mpr ⟨List.mem_of_getElem? (i := 283) (by decide +kernel), by decide +kernel⟩
theorem mw284 : (.code ⟨"RoomEchoes", "orderEchoes", "()V"⟩ prog_1_method_35_code 4 none : Cond) ∈ tb := List.mem_filter.mpr ⟨List.mem_of_getElem? (i := 284) (by decide +kernel), by decide +kernel⟩
theorem mw285 : (.methodLink "RoomEchoes" 182 ⟨"RoomEchoes$Axis", "order", "()V"⟩ : Cond) ∈ tb := List.mem_filter.mpr ⟨List.mem_of_getElem? (i := 285) (by decide +kernel), by decide +kernel⟩
theorem mw286 : (.instanceMethod ⟨"RoomEchoes$Axis", "order", "()V"⟩ : Cond) ∈ tb := List.mem_filter.mpr ⟨List.mem_of_getElem? (i := 286) (by decide +kernel), by decide +kernel⟩
theorem mw287 : (.selects "RoomEchoes$Axis" ⟨"RoomEchoes$Axis", "order", "()V"⟩ ⟨"RoomEchoes$Axis", "order", "()V"⟩ : Cond) ∈ tb := List.mem_filter.mpr ⟨List.mem_of_getElem? (i := 287) (by decide +kernel), by decide +kernel⟩
theorem mw288 : (.code ⟨"RoomEchoes$Axis", "order", "()V"⟩ prog_2_method_4_code 3 none : Cond) ∈ tb := List.mem_filter.mpr ⟨List.mem_of_getElem? (i := 288) (by decide +kernel), by decide +kernel⟩
theorem mw289 : (.methodLink "RoomEchoes$Axis" 33 ⟨"RoomEchoes$Axis", "insert", "(II)V"⟩ : Cond) ∈ tb := List.mem_filter.mpr ⟨List.mem_of_getElem? (i := 289) (by decide +kernel), by decide +kernel⟩
theorem mw291 : (.instanceMethod ⟨"RoomEchoes$Axis", "insert", "(II)V"⟩ : Cond) ∈ tb := List.mem_filter.mpr ⟨List.mem_of_getElem? (i := 291) (by decide +kernel), by decide +kernel⟩
theorem mw292 : (.code ⟨"RoomEchoes$Axis", "insert", "(II)V"⟩ prog_2_method_5_code 6 none : Cond) ∈ tb := List.mem_filter.mpr ⟨List.mem_of_getElem? (i := 292) (by decide +kernel), by decide +kernel⟩
theorem mw293 : (.methodLink "RoomEchoes$Axis" 40 ⟨"RoomEchoes$Axis", "squareTo", "(I)J"⟩ : Cond) ∈ tb := List.mem_filter.mpr ⟨List.mem_of_getElem? (i := 293) (by decide +kernel), by decide +kernel⟩
theorem mw295 : (.static ⟨"RoomEchoes", "withNumberBelow", "(JI)J"⟩ : Cond) ∈ tb := List.mem_filter.mpr ⟨List.mem_of_getElem? (i := 295) (by decide +kernel), by decide +kernel⟩
theorem mw296 : (.code ⟨"RoomEchoes", "withNumberBelow", "(JI)J"⟩ prog_1_method_28_code 3 (some .long) : Cond) ∈ tb := List.mem_filter.mpr ⟨List.mem_of_getElem? (i := 296) (by decide +kernel), by decide +kernel⟩
theorem mw297 : (.methodLink "RoomEchoes$Axis" 37 ⟨"RoomEchoes$Axis", "numberAt", "(I)I"⟩ : Cond) ∈ tb := List.mem_filter.mpr ⟨List.mem_of_getElem? (i := 297) (by decide +kernel), by decide +kernel⟩
theorem mw298 : (.instanceMethod ⟨"RoomEchoes$Axis", "numberAt", "(I)I"⟩ : Cond) ∈ tb := List.mem_filter.mpr ⟨List.mem_of_getElem? (i := 298) (by decide +kernel), by decide +kernel⟩
theorem mw299 : (.selects "RoomEchoes$Axis" ⟨"RoomEchoes$Axis", "numberAt", "(I)I"⟩ ⟨"RoomEchoes$Axis", "numberAt", "(I)I"⟩ : Cond) ∈ tb := List.mem_filter.mpr ⟨List.mem_of_getElem? (i := 299) (by decide +kernel), by decide +kernel⟩
theorem mw300 : (.code ⟨"RoomEchoes$Axis", "numberAt", "(I)I"⟩ prog_2_method_7_code 2 (some .int) : Cond) ∈ tb := List.mem_filter.mpr ⟨List.mem_of_getElem? (i := 300) (by decide +kernel), by decide +kernel⟩
theorem mw302 : (.static ⟨"RoomEchoes", "lowestNumberIn", "(J)I"⟩ : Cond) ∈ tb := List.mem_filter.mpr ⟨List.mem_of_getElem? (i := 302) (by decide +kernel), by decide +kernel⟩
theorem mw303 : (.code ⟨"RoomEchoes", "lowestNumberIn", "(J)I"⟩ prog_1_method_29_code 2 (some .int) : Cond) ∈ tb := List.mem_filter.mpr ⟨List.mem_of_getElem? (i := 303) (by decide +kernel), by decide +kernel⟩
theorem mw304 : (.constantLong "RoomEchoes" 174 127 : Cond) ∈ tb := List.mem_filter.mpr ⟨List.mem_of_getElem? (i := 304) (by decide +kernel), by decide +kernel⟩
theorem mw305 : (.methodLink "RoomEchoes" 185 ⟨"RoomEchoes$Frontier", "clear", "()V"⟩ : Cond) ∈ tb := List.mem_filter.mpr ⟨List.mem_of_getElem? (i := 305) (by decide +kernel), by decide +kernel⟩
theorem mw306 : (.instanceMethod ⟨"RoomEchoes$Frontier", "clear", "()V"⟩ : Cond) ∈ tb := List.mem_filter.mpr ⟨List.mem_of_getElem? (i := 306) (by decide +kernel), by decide +kernel⟩
theorem mw307 : (.selects "RoomEchoes$Frontier" ⟨"RoomEchoes$Frontier", "clear", "()V"⟩ ⟨"RoomEchoes$Frontier", "clear", "()V"⟩ : Cond) ∈ tb := List.mem_filter.mpr ⟨List.mem_of_getElem? (i := 307) (by decide +kernel), by decide +kernel⟩
theorem mw308 : (.code ⟨"RoomEchoes$Frontier", "clear", "()V"⟩ prog_3_method_2_code 1 none : Cond) ∈ tb := List.mem_filter.mpr ⟨List.mem_of_getElem? (i := 308) (by decide +kernel), by decide +kernel⟩
theorem mw309 : (.methodLink "RoomEchoes" 188 ⟨"RoomEchoes", "addAtRanks", "(III)V"⟩ : Cond) ∈ tb := List.mem_filter.mpr ⟨List.mem_of_getElem? (i := 309) (by decide +kernel), by decide +kernel⟩
theorem mw311 : (.instanceMethod ⟨"RoomEchoes", "addAtRanks", "(III)V"⟩ : Cond) ∈ tb := List.mem_filter.mpr ⟨List.mem_of_getElem? (i := 311) (by decide +kernel), by decide +kernel⟩
theorem mw312 : (.code ⟨"RoomEchoes", "addAtRanks", "(III)V"⟩ prog_1_method_37_code 6 none : Cond) ∈ tb := List.mem_filter.mpr ⟨List.mem_of_getElem? (i := 312) (by decide +kernel), by decide +kernel⟩
theorem mw313 : (.methodLink "RoomEchoes" 201 ⟨"RoomEchoes$Axis", "squareAt", "(I)J"⟩ : Cond) ∈ tb := List.mem_filter.mpr ⟨List.mem_of_getElem? (i := 313) (by decide +kernel), by decide +kernel⟩
theorem mw314 : (.instanceMethod ⟨"RoomEchoes$Axis", "squareAt", "(I)J"⟩ : Cond) ∈ tb := List.mem_filter.mpr ⟨List.mem_of_getElem? (i := 314) (by decide +kernel), by decide +kernel⟩
theorem mw315 : (.selects "RoomEchoes$Axis" ⟨"RoomEchoes$Axis", "squareAt", "(I)J"⟩ ⟨"RoomEchoes$Axis", "squareAt", "(I)J"⟩ : Cond) ∈ tb := List.mem_filter.mpr ⟨List.mem_of_getElem? (i := 315) (by decide +kernel), by decide +kernel⟩
theorem mw316 : (.code ⟨"RoomEchoes$Axis", "squareAt", "(I)J"⟩ prog_2_method_6_code 2 (some .long) : Cond) ∈ tb := List.mem_filter.mpr ⟨List.mem_of_getElem? (i := 316) (by decide +kernel), by decide +kernel⟩
theorem mw317 : (.methodLink "RoomEchoes" 204 ⟨"RoomEchoes$Axis", "numberAt", "(I)I"⟩ : Cond) ∈ tb := List.mem_filter.mpr ⟨List.mem_of_getElem? (i := 317) (by decide +kernel), by decide +kernel⟩
theorem mw318 : (.methodLink "RoomEchoes" 102 ⟨"RoomEchoes", "keyOf", "(JIII)J"⟩ : Cond) ∈ tb := List.mem_filter.mpr ⟨List.mem_of_getElem? (i := 318) (by decide +kernel), by decide +kernel⟩
theorem mw319 : (.static ⟨"RoomEchoes", "keyOf", "(JIII)J"⟩ : Cond) ∈ tb := List.mem_filter.mpr ⟨List.mem_of_getElem? (i := 319) (by decide +kernel), by decide +kernel⟩
theorem mw320 : (.code ⟨"RoomEchoes", "keyOf", "(JIII)J"⟩ prog_1_method_27_code 7 (some .long) : Cond) ∈ tb := List.mem_filter.mpr ⟨List.mem_of_getElem? (i := 320) (by decide +kernel), by decide +kernel⟩
theorem mw321 : (.methodLink "RoomEchoes" 170 ⟨"RoomEchoes", "withNumberBelow", "(JI)J"⟩ : Cond) ∈ tb := List.mem_filter.mpr ⟨List.mem_of_getElem? (i := 321) (by decide +kernel), by decide +kernel⟩
theorem mw322 : (.methodLink "RoomEchoes" 207 ⟨"RoomEchoes$Frontier", "add", "(J)V"⟩ : Cond) ∈ tb := List.mem_filter.mpr ⟨List.mem_of_getElem? (i := 322) (by decide +kernel), by decide +kernel⟩
theorem mw323 : (.instanceMethod ⟨"RoomEchoes$Frontier", "add", "(J)V"⟩ : Cond) ∈ tb := List.mem_filter.mpr ⟨List.mem_of_getElem? (i := 323) (by decide +kernel), by decide +kernel⟩
theorem mw324 : (.selects "RoomEchoes$Frontier" ⟨"RoomEchoes$Frontier", "add", "(J)V"⟩ ⟨"RoomEchoes$Frontier", "add", "(J)V"⟩ : Cond) ∈ tb := List.mem_filter.mpr ⟨List.mem_of_getElem? (i := 324) (by decide +kernel), by decide +kernel⟩
theorem mw325 : (.code ⟨"RoomEchoes$Frontier", "add", "(J)V"⟩ prog_3_method_3_code 4 none : Cond) ∈ tb := List.mem_filter.mpr ⟨List.mem_of_getElem? (i := 325) (by decide +kernel), by decide +kernel⟩
theorem mw326 : (.methodLink "RoomEchoes" 191 ⟨"RoomEchoes$Frontier", "takeLeast", "()J"⟩ : Cond) ∈ tb := List.mem_filter.mpr ⟨List.mem_of_getElem? (i := 326) (by decide +kernel), by decide +kernel⟩
theorem mw327 : (.instanceMethod ⟨"RoomEchoes$Frontier", "takeLeast", "()J"⟩ : Cond) ∈ tb := List.mem_filter.mpr ⟨List.mem_of_getElem? (i := 327) (by decide +kernel), by decide +kernel⟩
theorem mw328 : (.selects "RoomEchoes$Frontier" ⟨"RoomEchoes$Frontier", "takeLeast", "()J"⟩ ⟨"RoomEchoes$Frontier", "takeLeast", "()J"⟩ : Cond) ∈ tb := List.mem_filter.mpr ⟨List.mem_of_getElem? (i := 328) (by decide +kernel), by decide +kernel⟩
theorem mw329 : (.code ⟨"RoomEchoes$Frontier", "takeLeast", "()J"⟩ prog_3_method_4_code 3 (some .long) : Cond) ∈ tb := List.mem_filter.mpr ⟨List.mem_of_getElem? (i := 329) (by decide +kernel), by decide +kernel⟩
