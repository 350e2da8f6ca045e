theorem mw330 : (.methodLink "RoomEchoes$Frontier" 19 ⟨"RoomEchoes$Frontier", "sinkFromTop", "(J)V"⟩ : Cond) ∈ tb := List.mem_filter.mpr ⟨List.mem_of_getElem? (i := 330) (by decide +kernel), by decide +kernel⟩
theorem mw332 : (.instanceMethod ⟨"RoomEchoes$Frontier", "sinkFromTop", "(J)V"⟩ : Cond) ∈ tb := List.mem_filter.mpr ⟨List.mem_of_getElem? (i := 332) (by decide +kernel), by decide +kernel⟩
theorem mw333 : (.code ⟨"RoomEchoes$Frontier", "sinkFromTop", "(J)V"⟩ prog_3_method_5_code 5 none : Cond) ∈ tb := List.mem_filter.mpr ⟨List.mem_of_getElem? (i := 333) (by decide +kernel), by decide +kernel⟩
theorem mw334 : (.methodLink "RoomEchoes" 195 ⟨"RoomEchoes", "addFollowers", "(J)V"⟩ : Cond) ∈ tb := List.mem_filter.mpr ⟨List.mem_of_getElem? (i := 334) (by decide +kernel), by decide +kernel⟩
theorem mw336 : (.instanceMethod ⟨"RoomEchoes", "addFollowers", "(J)V"⟩ : Cond) ∈ tb := List.mem_filter.mpr ⟨List.mem_of_getElem? (i := 336) (by decide +kernel), by decide +kernel⟩
theorem mw337 : (.code ⟨"RoomEchoes", "addFollowers", "(J)V"⟩ prog_1_method_36_code 6 none : Cond) ∈ tb := List.mem_filter.mpr ⟨List.mem_of_getElem? (i := 337) (by decide +kernel), by decide +kernel⟩
theorem mw338 : (.methodLink "RoomEchoes" 88 ⟨"RoomEchoes", "firstNumberIn", "(J)I"⟩ : Cond) ∈ tb := List.mem_filter.mpr ⟨List.mem_of_getElem? (i := 338) (by decide +kernel), by decide +kernel⟩
theorem mw339 : (.static ⟨"RoomEchoes", "firstNumberIn", "(J)I"⟩ : Cond) ∈ tb := List.mem_filter.mpr ⟨List.mem_of_getElem? (i := 339) (by decide +kernel), by decide +kernel⟩
theorem mw340 : (.code ⟨"RoomEchoes", "firstNumberIn", "(J)I"⟩ prog_1_method_31_code 2 (some .int) : Cond) ∈ tb := List.mem_filter.mpr ⟨List.mem_of_getElem? (i := 340) (by decide +kernel), by decide +kernel⟩
theorem mw341 : (.methodLink "RoomEchoes" 176 ⟨"RoomEchoes", "lowestNumberIn", "(J)I"⟩ : Cond) ∈ tb := List.mem_filter.mpr ⟨List.mem_of_getElem? (i := 341) (by decide +kernel), by decide +kernel⟩
theorem mw342 : (.methodLink "RoomEchoes" 198 ⟨"RoomEchoes$Axis", "rankOf", "(I)I"⟩ : Cond) ∈ tb := List.mem_filter.mpr ⟨List.mem_of_getElem? (i := 342) (by decide +kernel), by decide +kernel⟩
theorem mw343 : (.instanceMethod ⟨"RoomEchoes$Axis", "rankOf", "(I)I"⟩ : Cond) ∈ tb := List.mem_filter.mpr ⟨List.mem_of_getElem? (i := 343) (by decide +kernel), by decide +kernel⟩
theorem mw344 : (.selects "RoomEchoes$Axis" ⟨"RoomEchoes$Axis", "rankOf", "(I)I"⟩ ⟨"RoomEchoes$Axis", "rankOf", "(I)I"⟩ : Cond) ∈ tb := List.mem_filter.mpr ⟨List.mem_of_getElem? (i := 344) (by decide +kernel), by decide +kernel⟩
theorem mw345 : (.code ⟨"RoomEchoes$Axis", "rankOf", "(I)I"⟩ prog_2_method_8_code 3 (some .int) : Cond) ∈ tb := List.mem_filter.mpr ⟨List.mem_of_getElem? (i := 345) (by decide +kernel), by decide +kernel⟩
theorem mw346 : (.methodLink "RoomEchoes" 92 ⟨"RoomEchoes", "secondNumberIn", "(J)I"⟩ : Cond) ∈ tb := List.mem_filter.mpr ⟨List.mem_of_getElem? (i := 346) (by decide +kernel), by decide +kernel⟩
theorem mw347 : (.static ⟨"RoomEchoes", "secondNumberIn", "(J)I"⟩ : Cond) ∈ tb := List.mem_filter.mpr ⟨List.mem_of_getElem? (i := 347) (by decide +kernel), by decide +kernel⟩
theorem mw348 : (.code ⟨"RoomEchoes", "secondNumberIn", "(J)I"⟩ prog_1_method_32_code 2 (some .int) : Cond) ∈ tb := List.mem_filter.mpr ⟨List.mem_of_getElem? (i := 348) (by decide +kernel), by decide +kernel⟩
theorem mw349 : (.methodLink "RoomEchoes" 95 ⟨"RoomEchoes", "thirdNumberIn", "(J)I"⟩ : Cond) ∈ tb := List.mem_filter.mpr ⟨List.mem_of_getElem? (i := 349) (by decide +kernel), by decide +kernel⟩
theorem mw350 : (.static ⟨"RoomEchoes", "thirdNumberIn", "(J)I"⟩ : Cond) ∈ tb := List.mem_filter.mpr ⟨List.mem_of_getElem? (i := 350) (by decide +kernel), by decide +kernel⟩
theorem mw351 : (.code ⟨"RoomEchoes", "thirdNumberIn", "(J)I"⟩ prog_1_method_33_code 2 (some .int) : Cond) ∈ tb := List.mem_filter.mpr ⟨List.mem_of_getElem? (i := 351) (by decide +kernel), by decide +kernel⟩
theorem mw352 : (.methodLink "RoomEchoes" 98 ⟨"RoomEchoes", "image", "(IIII)J"⟩ : Cond) ∈ tb := List.mem_filter.mpr ⟨List.mem_of_getElem? (i := 352) (by decide +kernel), by decide +kernel⟩
theorem mw353 : (.methodLink "RoomEchoesLaw" 85 ⟨"RoomEchoesLaw", "place", "(LRoomEchoes;III[J)I"⟩ : Cond) ∈ tb := List.mem_filter.mpr ⟨List.mem_of_getElem? (i := 353) (by decide +kernel), by decide +kernel⟩
theorem mw354 : (.static ⟨"RoomEchoesLaw", "place", "(LRoomEchoes;III[J)I"⟩ : Cond) ∈ tb := List.mem_filter.mpr ⟨List.mem_of_getElem? (i := 354) (by decide +kernel), by decide +kernel⟩
theorem mw355 : (.codeWith ⟨"RoomEchoesLaw", "place", "(LRoomEchoes;III[J)I"⟩ method_8_code 6 (some .int) [(0, 12, 15, 13)] : Cond) ∈ tb := List.mem_filter.mpr ⟨List.mem_of_getElem? (i := 355) (by decide +kernel), by decide +kernel⟩
theorem mw356 : (.methodLink "RoomEchoesLaw" 30 ⟨"RoomEchoes", "place", "(III)I"⟩ : Cond) ∈ tb := List.mem_filter.mpr ⟨List.mem_of_getElem? (i := 356) (by decide +kernel), by decide +kernel⟩
theorem mw357 : (.instanceMethod ⟨"RoomEchoes", "place", "(III)I"⟩ : Cond) ∈ tb := List.mem_filter.mpr ⟨List.mem_of_getElem? (i := 357) (by decide +kernel), by decide +kernel⟩
theorem mw358 : (.selects "RoomEchoes" ⟨"RoomEchoes", "place", "(III)I"⟩ ⟨"RoomEchoes", "place", "(III)I"⟩ : Cond) ∈ tb := List.mem_filter.mpr ⟨List.mem_of_getElem? (i := 358) (by decide +kernel), by decide +kernel⟩
theorem mw359 : (.code ⟨"RoomEchoes", "place", "(III)I"⟩ prog_1_method_7_code 7 (some .int) : Cond) ∈ tb := List.mem_filter.mpr ⟨List.mem_of_getElem? (i := 359) (by decide +kernel), by decide +kernel⟩
theorem mw360 : (.methodLink "RoomEchoesLaw" 91 ⟨"RoomEchoesLaw", "until", "(LRoomEchoes;J[J)I"⟩ : Cond) ∈ tb := List.mem_filter.mpr ⟨List.mem_of_getElem? (i := 360) (by decide +kernel), by decide +kernel⟩
theorem mw361 : (.static ⟨"RoomEchoesLaw", "until", "(LRoomEchoes;J[J)I"⟩ : Cond) ∈ tb := List.mem_filter.mpr ⟨List.mem_of_getElem? (i := 361) (by decide +kernel), by decide +kernel⟩
theorem mw362 : (.codeWith ⟨"RoomEchoesLaw", "until", "(LRoomEchoes;J[J)I"⟩ method_9_code 5 (some .int) [(0, 9, 12, 13)] : Cond) ∈ tb := List.mem_filter.mpr ⟨List.mem_of_getElem? (i := 362) (by decide +kernel), by decide +kernel⟩
theorem mw363 : (.methodLink "RoomEchoesLaw" 34 ⟨"RoomEchoes", "until", "(J)I"⟩ : Cond) ∈ tb := List.mem_filter.mpr ⟨List.mem_of_getElem? (i := 363) (by decide +kernel), by decide +kernel⟩
theorem mw364 : (.instanceMethod ⟨"RoomEchoes", "until", "(J)I"⟩ : Cond) ∈ tb := List.mem_filter.mpr ⟨List.mem_of_getElem? (i := 364) (by decide +kernel), by decide +kernel⟩
theorem mw365 : (.selects "RoomEchoes" ⟨"RoomEchoes", "until", "(J)I"⟩ ⟨"RoomEchoes", "until", "(J)I"⟩ : Cond) ∈ tb := List.mem_filter.mpr ⟨List.mem_of_getElem? (i := 365) (by decide +kernel), by decide +kernel⟩
theorem mw366 : (.code ⟨"RoomEchoes", "until", "(J)I"⟩ prog_1_method_8_code 3 (some .int) : Cond) ∈ tb := List.mem_filter.mpr ⟨List.mem_of_getElem? (i := 366) (by decide +kernel), by decide +kernel⟩
theorem mw367 : (.methodLink "RoomEchoes" 106 ⟨"RoomEchoes", "requireDistance", "(J)V"⟩ : Cond) ∈ tb := List.mem_filter.mpr ⟨List.mem_of_getElem? (i := 367) (by decide +kernel), by decide +kernel⟩
theorem mw368 : (.static ⟨"RoomEchoes", "requireDistance", "(J)V"⟩ : Cond) ∈ tb := List.mem_filter.mpr ⟨List.mem_of_getElem? (i := 368) (by decide +kernel), by decide +kernel⟩
theorem mw369 : (.code ⟨"RoomEchoes", "requireDistance", "(J)V"⟩ prog_1_method_15_code 2 none : Cond) ∈ tb := List.mem_filter.mpr ⟨List.mem_of_getElem? (i := 369) (by decide +kernel), by decide +kernel⟩
theorem mw371 : (.methodLink "RoomEchoes" 110 ⟨"RoomEchoes", "countWithin", "(J)I"⟩ : Cond) ∈ tb := List.mem_filter.mpr ⟨List.mem_of_getElem? (i := 371) (by decide +kernel), by decide +kernel⟩
theorem mw373 : (.instanceMethod ⟨"RoomEchoes", "countWithin", "(J)I"⟩ : Cond) ∈ tb := List.mem_filter.mpr ⟨List.mem_of_getElem? (i := 373) (by decide +kernel), by decide +kernel⟩
theorem mw374 : (.code ⟨"RoomEchoes", "countWithin", "(J)I"⟩ prog_1_method_39_code 4 (some .int) : Cond) ∈ tb := List.mem_filter.mpr ⟨List.mem_of_getElem? (i := 374) (by decide +kernel), by decide +kernel⟩
theorem mw375 : (.methodLink "RoomEchoes" 210 ⟨"RoomEchoes", "distanceIn", "(J)J"⟩ : Cond) ∈ tb := List.mem_filter.mpr ⟨List.mem_of_getElem? (i := 375) (by decide +kernel), by decide +kernel⟩
theorem mw376 : (.static ⟨"RoomEchoes", "distanceIn", "(J)J"⟩ : Cond) ∈ tb := List.mem_filter.mpr ⟨List.mem_of_getElem? (i := 376) (by decide +kernel), by decide +kernel⟩
theorem mw377 : (.code ⟨"RoomEchoes", "distanceIn", "(J)J"⟩ prog_1_method_30_code 2 (some .long) : Cond) ∈ tb := List.mem_filter.mpr ⟨List.mem_of_getElem? (i := 377) (by decide +kernel), by decide +kernel⟩
theorem mw378 : (.methodLink "RoomEchoesLaw" 95 ⟨"RoomEchoesLaw", "loud", "(LRoomEchoes;II[J)I"⟩ : Cond) ∈ tb := List.mem_filter.mpr ⟨List.mem_of_getElem? (i := 378) (by decide +kernel), by decide +kernel⟩
theorem mw379 : (.static ⟨"RoomEchoesLaw", "loud", "(LRoomEchoes;II[J)I"⟩ : Cond) ∈ tb := List.mem_filter.mpr ⟨List.mem_of_getElem? (i := 379) (by decide +kernel), by decide +kernel⟩
theorem mw380 : (.codeWith ⟨"RoomEchoesLaw", "loud", "(LRoomEchoes;II[J)I"⟩ method_10_code 5 (some .int) [(0, 9, 12, 13)] : Cond) ∈ tb := List.mem_filter.mpr ⟨List.mem_of_getElem? (i := 380) (by decide +kernel), by decide +kernel⟩
theorem mw381 : (.methodLink "RoomEchoesLaw" 38 ⟨"RoomEchoes", "loud", "(II)J"⟩ : Cond) ∈ tb := List.mem_filter.mpr ⟨List.mem_of_getElem? (i := 381) (by decide +kernel), by decide +kernel⟩
theorem mw382 : (.instanceMethod ⟨"RoomEchoes", "loud", "(II)J"⟩ : Cond) ∈ tb := List.mem_filter.mpr ⟨List.mem_of_getElem? (i := 382) (by decide +kernel), by decide +kernel⟩
theorem mw383 : (.selects "RoomEchoes" ⟨"RoomEchoes", "loud", "(II)J"⟩ ⟨"RoomEchoes", "loud", "(II)J"⟩ : Cond) ∈ tb := List.mem_filter.mpr ⟨List.mem_of_getElem? (i := 383) (by decide +kernel), by decide +kernel⟩
theorem mw384 : (.code ⟨"RoomEchoes", "loud", "(II)J"⟩ prog_1_method_9_code 3 (some .long) : Cond) ∈ tb := List.mem_filter.mpr ⟨List.mem_of_getElem? (i := 384) (by decide +kernel), by decide +kernel⟩
theorem mw385 : (.methodLink "RoomEchoes" 113 ⟨"RoomEchoes", "weighEchoes", "()V"⟩ : Cond) ∈ tb := List.mem_filter.mpr ⟨List.mem_of_getElem? (i := 385) (by decide +kernel), by decide +kernel⟩
theorem mw387 : (.instanceMethod ⟨"RoomEchoes", "weighEchoes", "()V"⟩ : Cond) ∈ tb := List.mem_filter.mpr ⟨List.mem_of_getElem? (i := 387) (by decide +kernel), by decide +kernel⟩
theorem mw388 : (.code ⟨"RoomEchoes", "weighEchoes", "()V"⟩ prog_1_method_38_code 6 none : Cond) ∈ tb := List.mem_filter.mpr ⟨List.mem_of_getElem? (i := 388) (by decide +kernel), by decide +kernel⟩
theorem mw389 : (.methodLink "RoomEchoes" 116 ⟨"RoomEchoes", "loudnessBetween", "(II)J"⟩ : Cond) ∈ tb := List.mem_filter.mpr ⟨List.mem_of_getElem? (i := 389) (by decide +kernel), by decide +kernel⟩
theorem mw391 : (.instanceMethod ⟨"RoomEchoes", "loudnessBetween", "(II)J"⟩ : Cond) ∈ tb := List.mem_filter.mpr ⟨List.mem_of_getElem? (i := 391) (by decide +kernel), by decide +kernel⟩
theorem mw392 : (.code ⟨"RoomEchoes", "loudnessBetween", "(II)J"⟩ prog_1_method_40_code 6 (some .long) : Cond) ∈ tb := List.mem_filter.mpr ⟨List.mem_of_getElem? (i := 392) (by decide +kernel), by decide +kernel⟩
theorem mw393 : (.methodLink "RoomEchoesLaw" 98 ⟨"RoomEchoesLaw", "early", "(LRoomEchoes;JI[J)I"⟩ : Cond) ∈ tb := List.mem_filter.mpr ⟨List.mem_of_getElem? (i := 393) (by decide +kernel), by decide +kernel⟩
theorem mw394 : (.static ⟨"RoomEchoesLaw", "early", "(LRoomEchoes;JI[J)I"⟩ : Cond) ∈ tb := List.mem_filter.mpr ⟨List.mem_of_getElem? (i := 394) (by decide +kernel), by decide +kernel⟩
theorem mw395 : (.codeWith ⟨"RoomEchoesLaw", "early", "(LRoomEchoes;JI[J)I"⟩ method_11_code 6 (some .int) [(0, 10, 13, 13)] : Cond) ∈ tb := List.mem_filter.mpr ⟨List.mem_of_getElem? (i := 395) (by decide +kernel), by decide +kernel⟩
theorem mw396 : (.methodLink "RoomEchoesLaw" 41 ⟨"RoomEchoes", "early", "(JI)J"⟩ : Cond) ∈ tb := List.mem_filter.mpr ⟨List.mem_of_getElem? (i := 396) (by decide +kernel), by decide +kernel⟩
theorem mw397 : (.instanceMethod ⟨"RoomEchoes", "early", "(JI)J"⟩ : Cond) ∈ tb := List.mem_filter.mpr ⟨List.mem_of_getElem? (i := 397) (by decide +kernel), by decide +kernel⟩
theorem mw398 : (.selects "RoomEchoes" ⟨"RoomEchoes", "early", "(JI)J"⟩ ⟨"RoomEchoes", "early", "(JI)J"⟩ : Cond) ∈ tb := List.mem_filter.mpr ⟨List.mem_of_getElem? (i := 398) (by decide +kernel), by decide +kernel⟩
theorem mw399 : (.code ⟨"RoomEchoes", "early", "(JI)J"⟩ prog_1_method_10_code 10 (some .long) : Cond) ∈ tb := List.mem_filter.mpr ⟨List.mem_of_getElem? (i := 399) (by decide +kernel), by decide +kernel⟩
theorem mw400 : (.methodLink "RoomEchoes" 120 ⟨"RoomEchoes", "greatestCommonDivisor", "(JJ)J"⟩ : Cond) ∈ tb := List.mem_filter.mpr ⟨List.mem_of_getElem? (i := 400) (by decide +kernel), by decide +kernel⟩
theorem mw401 : (.static ⟨"RoomEchoes", "greatestCommonDivisor", "(JJ)J"⟩ : Cond) ∈ tb := List.mem_filter.mpr ⟨List.mem_of_getElem? (i := 401) (by decide +kernel), by decide +kernel⟩
theorem mw402 : (.code ⟨"RoomEchoes", "greatestCommonDivisor", "(JJ)J"⟩ prog_1_method_41_code 11 (some .long) : Cond) ∈ tb := List.mem_filter.mpr ⟨List.mem_of_getElem? (i := 402) (by decide +kernel), by decide +kernel⟩
theorem mw403 : (.methodLink "RoomEchoesLaw" 102 ⟨"RoomEchoesLaw", "enough", "(LRoomEchoes;I[J)I"⟩ : Cond) ∈ tb := List.mem_filter.mpr ⟨List.mem_of_getElem? (i := 403) (by decide +kernel), by decide +kernel⟩
theorem mw404 : (.static ⟨"RoomEchoesLaw", "enough", "(LRoomEchoes;I[J)I"⟩ : Cond) ∈ tb := List.mem_filter.mpr ⟨List.mem_of_getElem? (i := 404) (by decide +kernel), by decide +kernel⟩
theorem mw405 : (.codeWith ⟨"RoomEchoesLaw", "enough", "(LRoomEchoes;I[J)I"⟩ method_12_code 4 (some .int) [(0, 9, 12, 13)] : Cond) ∈ tb := List.mem_filter.mpr ⟨List.mem_of_getElem? (i := 405) (by decide +kernel), by decide +kernel⟩
theorem mw406 : (.methodLink "RoomEchoesLaw" 45 ⟨"RoomEchoes", "enough", "(I)I"⟩ : Cond) ∈ tb := List.mem_filter.mpr ⟨List.mem_of_getElem? (i := 406) (by decide +kernel), by decide +kernel⟩
theorem mw407 : (.instanceMethod ⟨"RoomEchoes", "enough", "(I)I"⟩ : Cond) ∈ tb := List.mem_filter.mpr ⟨List.mem_of_getElem? (i := 407) (by decide +kernel), by decide +kernel⟩
theorem mw408 : (.selects "RoomEchoes" ⟨"RoomEchoes", "enough", "(I)I"⟩ ⟨"RoomEchoes", "enough", "(I)I"⟩ : Cond) ∈ tb := List.mem_filter.mpr ⟨List.mem_of_getElem? (i := 408) (by decide +kernel), by decide +kernel⟩
theorem mw409 : (.code ⟨"RoomEchoes", "enough", "(I)I"⟩ prog_1_method_11_code 7 (some .int) : Cond) ∈ tb := List.mem_filter.mpr ⟨List.mem_of_getElem? (i := 409) (by decide +kernel), by decide +kernel⟩
theorem mw410 : (.methodLink "RoomEchoesLaw" 106 ⟨"RoomEchoesLaw", "loudest", "(LRoomEchoes;I[J)I"⟩ : Cond) ∈ tb := List.mem_filter.mpr ⟨List.mem_of_getElem? (i := 410) (by decide +kernel), by decide +kernel⟩
theorem mw411 : (.static ⟨"RoomEchoesLaw", "loudest", "(LRoomEchoes;I[J)I"⟩ : Cond) ∈ tb := List.mem_filter.mpr ⟨List.mem_of_getElem? (i := 411) (by decide +kernel), by decide +kernel⟩
theorem mw412 : (.codeWith ⟨"RoomEchoesLaw", "loudest", "(LRoomEchoes;I[J)I"⟩ method_13_code 4 (some .int) [(0, 9, 12, 13)] : Cond) ∈ tb := List.mem_filter.mpr ⟨List.mem_of_getElem? (i := 412) (by decide +kernel), by decide +kernel⟩
theorem mw413 : (.methodLink "RoomEchoesLaw" 49 ⟨"RoomEchoes", "loudest", "(I)I"⟩ : Cond) ∈ tb := List.mem_filter.mpr ⟨List.mem_of_getElem? (i := 413) (by decide +kernel), by decide +kernel⟩
theorem mw414 : (.instanceMethod ⟨"RoomEchoes", "loudest", "(I)I"⟩ : Cond) ∈ tb := List.mem_filter.mpr ⟨List.mem_of_getElem? (i := 414) (by decide +kernel), by decide +kernel⟩
theorem mw415 : (.selects "RoomEchoes" ⟨"RoomEchoes", "loudest", "(I)I"⟩ ⟨"RoomEchoes", "loudest", "(I)I"⟩ : Cond) ∈ tb := List.mem_filter.mpr ⟨List.mem_of_getElem? (i := 415) (by decide +kernel), by decide +kernel⟩
theorem mw416 : (.code ⟨"RoomEchoes", "loudest", "(I)I"⟩ prog_1_method_12_code 6 (some .int) : Cond) ∈ tb := List.mem_filter.mpr ⟨List.mem_of_getElem? (i := 416) (by decide +kernel), by decide +kernel⟩
theorem mw417 : (.constantLong "RoomEchoes" 125 (-1) : Cond) ∈ tb := List.mem_filter.mpr ⟨List.mem_of_getElem? (i := 417) (by decide +kernel), by decide +kernel⟩
theorem mw418 : (.classLink "RoomEchoesLaw" 60 "RoomEchoesModel" : Cond) ∈ tb := List.mem_filter.mpr ⟨List.mem_of_getElem? (i := 418) (by decide +kernel), by decide +kernel⟩
theorem mw419 : (.instantiable "RoomEchoesModel" 12 : Cond) ∈ tb := List.mem_filter.mpr ⟨List.mem_of_getElem? (i := 419) (by decide +kernel), by decide +kernel⟩
theorem mw420 : (.methodLink "RoomEchoesLaw" 62 ⟨"RoomEchoesModel", "<init>", "(III)V"⟩ : Cond) ∈ tb := List.mem_filter.mpr ⟨List.mem_of_getElem? (i := 420) (by decide +kernel), by decide +kernel⟩
theorem mw421 : (.instanceMethod ⟨"RoomEchoesModel", "<init>", "(III)V"⟩ : Cond) ∈ tb := List.mem_filter.mpr ⟨List.mem_of_getElem? (i := 421) (by decide +kernel), by decide +kernel⟩
theorem mw422 : (.code ⟨"RoomEchoesModel", "<init>", "(III)V"⟩ prog_5_method_1_code 5 none : Cond) ∈ tb := List.mem_filter.mpr ⟨List.mem_of_getElem? (i := 422) (by decide +kernel), by decide +kernel⟩
theorem mw423 : (.methodLink "RoomEchoesModel" 1 ⟨"java/lang/Object", "<init>", "()V"⟩ : Cond) ∈ tb := List.mem_filter.mpr ⟨List.mem_of_getElem? (i := 423) (by decide +kernel), by decide +kernel⟩
theorem mw424 : (.fieldLink "RoomEchoesModel" 41 "RoomEchoesModel" "thrown" "I" : Cond) ∈ tb := List.mem_filter.mpr ⟨List.mem_of_getElem? (i := 424) (by decide +kernel), by decide +kernel⟩
theorem mw425 : (.fieldLink "RoomEchoesModel" 7 "RoomEchoesModel" "sizes" "[I" : Cond) ∈ tb := List.mem_filter.mpr ⟨List.mem_of_getElem? (i := 425) (by decide +kernel), by decide +kernel⟩
theorem mw426 : (.fieldLink "RoomEchoesModel" 13 "RoomEchoesModel" "source" "[I" : Cond) ∈ tb := List.mem_filter.mpr ⟨List.mem_of_getElem? (i := 426) (by decide +kernel), by decide +kernel⟩
theorem mw427 : (.fieldLink "RoomEchoesModel" 16 "RoomEchoesModel" "listener" "[I" : Cond) ∈ tb := List.mem_filter.mpr ⟨List.mem_of_getElem? (i := 427) (by decide +kernel), by decide +kernel⟩
theorem mw428 : (.fieldLink "RoomEchoesModel" 19 "RoomEchoesModel" "keeps" "[I" : Cond) ∈ tb := List.mem_filter.mpr ⟨List.mem_of_getElem? (i := 428) (by decide +kernel), by decide +kernel⟩
theorem mw429 : (.fieldLink "RoomEchoesModel" 53 "RoomEchoesModel" "known" "Z" : Cond) ∈ tb := List.mem_filter.mpr ⟨List.mem_of_getElem? (i := 429) (by decide +kernel), by decide +kernel⟩
theorem mw430 : (.fieldLink "RoomEchoesModel" 22 "RoomEchoesModel" "squares" "[J" : Cond) ∈ tb := List.mem_filter.mpr ⟨List.mem_of_getElem? (i := 430) (by decide +kernel), by decide +kernel⟩
theorem mw431 : (.fieldLink "RoomEchoesModel" 26 "RoomEchoesModel" "sorted" "[J" : Cond) ∈ tb := List.mem_filter.mpr ⟨List.mem_of_getElem? (i := 431) (by decide +kernel), by decide +kernel⟩
theorem mw432 : (.fieldLink "RoomEchoesModel" 29 "RoomEchoesModel" "distances" "[J" : Cond) ∈ tb := List.mem_filter.mpr ⟨List.mem_of_getElem? (i := 432) (by decide +kernel), by decide +kernel⟩
theorem mw433 : (.fieldLink "RoomEchoesModel" 32 "RoomEchoesModel" "as" "[I" : Cond) ∈ tb := List.mem_filter.mpr ⟨List.mem_of_getElem? (i := 433) (by decide +kernel), by decide +kernel⟩
theorem mw434 : (.fieldLink "RoomEchoesModel" 35 "RoomEchoesModel" "bs" "[I" : Cond) ∈ tb := List.mem_filter.mpr ⟨List.mem_of_getElem? (i := 434) (by decide +kernel), by decide +kernel⟩
theorem mw435 : (.fieldLink "RoomEchoesModel" 38 "RoomEchoesModel" "cs" "[I" : Cond) ∈ tb := List.mem_filter.mpr ⟨List.mem_of_getElem? (i := 435) (by decide +kernel), by decide +kernel⟩
theorem mw461 : (.methodLink "RoomEchoesLaw" 67 ⟨"RoomEchoesModel", "thrown", "()I"⟩ : Cond) ∈ tb := List.mem_filter.mpr ⟨List.mem_of_getElem? (i := 461) (by decide +kernel), by decide +kernel⟩
theorem mw462 : (.instanceMethod ⟨"RoomEchoesModel", "thrown", "()I"⟩ : Cond) ∈ tb := List.mem_filter.mpr ⟨List.mem_of_getElem? (i := 462) (by decide +kernel), by decide +kernel⟩
theorem mw463 : (.selects "RoomEchoesModel" ⟨"RoomEchoesModel", "thrown", "()I"⟩ ⟨"RoomEchoesModel", "thrown", "()I"⟩ : Cond) ∈ tb := List.mem_filter.mpr ⟨List.mem_of_getElem? (i := 463) (by decide +kernel), by decide +kernel⟩
theorem mw464 : (.code ⟨"RoomEchoesModel", "thrown", "()I"⟩ prog_5_method_2_code 1 (some .int) : Cond) ∈ tb := List.mem_filter.mpr ⟨List.mem_of_getElem? (i := 464) (by decide +kernel), by decide +kernel⟩
theorem mw465 : (.methodLink "RoomEchoesLaw" 66 ⟨"RoomEchoesModel", "source", "(III)V"⟩ : Cond) ∈ tb := List.mem_filter.mpr ⟨List.mem_of_getElem? (i := 465) (by decide +kernel), by decide +kernel⟩
theorem mw466 : (.instanceMethod ⟨"RoomEchoesModel", "source", "(III)V"⟩ : Cond) ∈ tb := List.mem_filter.mpr ⟨List.mem_of_getElem? (i := 466) (by decide +kernel), by decide +kernel⟩
theorem mw467 : (.selects "RoomEchoesModel" ⟨"RoomEchoesModel", "source", "(III)V"⟩ ⟨"RoomEchoesModel", "source", "(III)V"⟩ : Cond) ∈ tb := List.mem_filter.mpr ⟨List.mem_of_getElem? (i := 467) (by decide +kernel), by decide +kernel⟩
theorem mw468 : (.code ⟨"RoomEchoesModel", "source", "(III)V"⟩ prog_5_method_5_code 4 none : Cond) ∈ tb := List.mem_filter.mpr ⟨List.mem_of_getElem? (i := 468) (by decide +kernel), by decide +kernel⟩
theorem mw469 : (.methodLink "RoomEchoesModel" 49 ⟨"RoomEchoesModel", "isPoint", "(III)Z"⟩ : Cond) ∈ tb := List.mem_filter.mpr ⟨List.mem_of_getElem? (i := 469) (by decide +kernel), by decide +kernel⟩
theorem mw471 : (.instanceMethod ⟨"RoomEchoesModel", "isPoint", "(III)Z"⟩ : Cond) ∈ tb := List.mem_filter.mpr ⟨List.mem_of_getElem? (i := 471) (by decide +kernel), by decide +kernel⟩
theorem mw472 : (.code ⟨"RoomEchoesModel", "isPoint", "(III)Z"⟩ prog_5_method_4_code 4 (some .boolean) : Cond) ∈ tb := List.mem_filter.mpr ⟨List.mem_of_getElem? (i := 472) (by decide +kernel), by decide +kernel⟩
theorem mw473 : (.methodLink "RoomEchoesModel" 45 ⟨"RoomEchoesModel", "in", "(JJJ)Z"⟩ : Cond) ∈ tb := List.mem_filter.mpr ⟨List.mem_of_getElem? (i := 473) (by decide +kernel), by decide +kernel⟩
theorem mw474 : (.static ⟨"RoomEchoesModel", "in", "(JJJ)Z"⟩ : Cond) ∈ tb := List.mem_filter.mpr ⟨List.mem_of_getElem? (i := 474) (by decide +kernel), by decide +kernel⟩
theorem mw475 : (.code ⟨"RoomEchoesModel", "in", "(JJJ)Z"⟩ prog_5_method_3_code 6 (some .boolean) : Cond) ∈ tb := List.mem_filter.mpr ⟨List.mem_of_getElem? (i := 475) (by decide +kernel), by decide +kernel⟩
theorem mw476 : (.methodLink "RoomEchoesLaw" 73 ⟨"RoomEchoesModel", "listener", "(III)V"⟩ : Cond) ∈ tb := List.mem_filter.mpr ⟨List.mem_of_getElem? (i := 476) (by decide +kernel), by decide +kernel⟩
theorem mw477 : (.instanceMethod ⟨"RoomEchoesModel", "listener", "(III)V"⟩ : Cond) ∈ tb := List.mem_filter.mpr ⟨List.mem_of_getElem? (i := 477) (by decide +kernel), by decide +kernel⟩
theorem mw478 : (.selects "RoomEchoesModel" ⟨"RoomEchoesModel", "listener", "(III)V"⟩ ⟨"RoomEchoesModel", "listener", "(III)V"⟩ : Cond) ∈ tb := List.mem_filter.mpr ⟨List.mem_of_getElem? (i := 478) (by decide +kernel), by decide +kernel⟩
theorem mw479 : (.code ⟨"RoomEchoesModel", "listener", "(III)V"⟩ prog_5_method_6_code 4 none : Cond) ∈ tb := List.mem_filter.mpr ⟨List.mem_of_getElem? (i := 479) (by decide +kernel), by decide +kernel⟩
theorem mw480 : (.methodLink "RoomEchoesLaw" 77 ⟨"RoomEchoesModel", "keeps", "(II)I"⟩ : Cond) ∈ tb := List.mem_filter.mpr ⟨List.mem_of_getElem? (i := 480) (by decide +kernel), by decide +kernel⟩
theorem mw481 : (.instanceMethod ⟨"RoomEchoesModel", "keeps", "(II)I"⟩ : Cond) ∈ tb := List.mem_filter.mpr ⟨List.mem_of_getElem? (i := 481) (by decide +kernel), by decide +kernel⟩
theorem mw482 : (.selects "RoomEchoesModel" ⟨"RoomEchoesModel", "keeps", "(II)I"⟩ ⟨"RoomEchoesModel", "keeps", "(II)I"⟩ : Cond) ∈ tb := List.mem_filter.mpr ⟨List.mem_of_getElem? (i := 482) (by decide +kernel), by decide +kernel⟩
theorem mw483 : (.code ⟨"RoomEchoesModel", "keeps", "(II)I"⟩ prog_5_method_7_code 4 (some .int) : Cond) ∈ tb := List.mem_filter.mpr ⟨List.mem_of_getElem? (i := 483) (by decide +kernel), by decide +kernel⟩
theorem mw484 : (.constantLong "RoomEchoesModel" 57 5 : Cond) ∈ tb := List.mem_filter.mpr ⟨List.mem_of_getElem? (i := 484) (by decide +kernel), by decide +kernel⟩
theorem mw485 : (.constantLong "RoomEchoesModel" 59 1000 : Cond) ∈ tb := List.mem_filter.mpr ⟨List.mem_of_getElem? (i := 485) (by decide +kernel), by decide +kernel⟩
theorem mw486 : (.methodLink "RoomEchoesLaw" 81 ⟨"RoomEchoesModel", "image", "(IIII)J"⟩ : Cond) ∈ tb := List.mem_filter.mpr ⟨List.mem_of_getElem? (i := 486) (by decide +kernel), by decide +kernel⟩
theorem mw487 : (.instanceMethod ⟨"RoomEchoesModel", "image", "(IIII)J"⟩ : Cond) ∈ tb := List.mem_filter.mpr ⟨List.mem_of_getElem? (i := 487) (by decide +kernel), by decide +kernel⟩
theorem mw488 : (.selects "RoomEchoesModel" ⟨"RoomEchoesModel", "image", "(IIII)J"⟩ ⟨"RoomEchoesModel", "image", "(IIII)J"⟩ : Cond) ∈ tb := List.mem_filter.mpr ⟨List.mem_of_getElem? (i := 488) (by decide +kernel), by decide +kernel⟩
theorem mw489 : (.code ⟨"RoomEchoesModel", "image", "(IIII)J"⟩ prog_5_method_17_code 5 (some .long) : Cond) ∈ tb := List.mem_filter.mpr ⟨List.mem_of_getElem? (i := 489) (by decide +kernel), by decide +kernel⟩
theorem mw490 : (.methodLink "RoomEchoesModel" 92 ⟨"RoomEchoesModel", "isImage", "(III)Z"⟩ : Cond) ∈ tb := List.mem_filter.mpr ⟨List.mem_of_getElem? (i := 490) (by decide +kernel), by decide +kernel⟩
theorem mw491 : (.static ⟨"RoomEchoesModel", "isImage", "(III)Z"⟩ : Cond) ∈ tb := List.mem_filter.mpr ⟨List.mem_of_getElem? (i := 491) (by decide +kernel), by decide +kernel⟩
theorem mw492 : (.code ⟨"RoomEchoesModel", "isImage", "(III)Z"⟩ prog_5_method_16_code 3 (some .boolean) : Cond) ∈ tb := List.mem_filter.mpr ⟨List.mem_of_getElem? (i := 492) (by decide +kernel), by decide +kernel⟩
theorem mw493 : (.constantLong "RoomEchoesModel" 88 (-40) : Cond) ∈ tb := List.mem_filter.mpr ⟨List.mem_of_getElem? (i := 493) (by decide +kernel), by decide +kernel⟩
theorem mw494 : (.constantLong "RoomEchoesModel" 90 40 : Cond) ∈ tb := List.mem_filter.mpr ⟨List.mem_of_getElem? (i := 494) (by decide +kernel), by decide +kernel⟩
theorem mw495 : (.constantLong "RoomEchoesModel" 95 3 : Cond) ∈ tb := List.mem_filter.mpr ⟨List.mem_of_getElem? (i := 495) (by decide +kernel), by decide +kernel⟩
theorem mw496 : (.methodLink "RoomEchoesModel" 97 ⟨"RoomEchoesModel", "told", "(IIII)J"⟩ : Cond) ∈ tb := List.mem_filter.mpr ⟨List.mem_of_getElem? (i := 496) (by decide +kernel), by decide +kernel⟩
theorem mw498 : (.instanceMethod ⟨"RoomEchoesModel", "told", "(IIII)J"⟩ : Cond) ∈ tb := List.mem_filter.mpr ⟨List.mem_of_getElem? (i := 498) (by decide +kernel), by decide +kernel⟩
theorem mw499 : (.code ⟨"RoomEchoesModel", "told", "(IIII)J"⟩ prog_5_method_15_code 5 (some .long) : Cond) ∈ tb := List.mem_filter.mpr ⟨List.mem_of_getElem? (i := 499) (by decide +kernel), by decide +kernel⟩
theorem mw500 : (.methodLink "RoomEchoesModel" 78 ⟨"RoomEchoesModel", "distance", "(III)J"⟩ : Cond) ∈ tb := List.mem_filter.mpr ⟨List.mem_of_getElem? (i := 500) (by decide +kernel), by decide +kernel⟩
theorem mw502 : (.instanceMethod ⟨"RoomEchoesModel", "distance", "(III)J"⟩ : Cond) ∈ tb := List.mem_filter.mpr ⟨List.mem_of_getElem? (i := 502) (by decide +kernel), by decide +kernel⟩
theorem mw503 : (.code ⟨"RoomEchoesModel", "distance", "(III)J"⟩ prog_5_method_11_code 4 (some .long) : Cond) ∈ tb := List.mem_filter.mpr ⟨List.mem_of_getElem? (i := 503) (by decide +kernel), by decide +kernel⟩
theorem mw504 : (.methodLink "RoomEchoesModel" 61 ⟨"RoomEchoesModel", "square", "(II)J"⟩ : Cond) ∈ tb := List.mem_filter.mpr ⟨List.mem_of_getElem? (i := 504) (by decide +kernel), by decide +kernel⟩
theorem mw506 : (.instanceMethod ⟨"RoomEchoesModel", "square", "(II)J"⟩ : Cond) ∈ tb := List.mem_filter.mpr ⟨List.mem_of_getElem? (i := 506) (by decide +kernel), by decide +kernel⟩
theorem mw507 : (.code ⟨"RoomEchoesModel", "square", "(II)J"⟩ prog_5_method_8_code 7 (some .long) : Cond) ∈ tb := List.mem_filter.mpr ⟨List.mem_of_getElem? (i := 507) (by decide +kernel), by decide +kernel⟩
theorem mw508 : (.methodLink "RoomEchoesModel" 82 ⟨"RoomEchoesModel", "strength", "(III)J"⟩ : Cond) ∈ tb := List.mem_filter.mpr ⟨List.mem_of_getElem? (i := 508) (by decide +kernel), by decide +kernel⟩
theorem mw510 : (.instanceMethod ⟨"RoomEchoesModel", "strength", "(III)J"⟩ : Cond) ∈ tb := List.mem_filter.mpr ⟨List.mem_of_getElem? (i := 510) (by decide +kernel), by decide +kernel⟩
theorem mw511 : (.code ⟨"RoomEchoesModel", "strength", "(III)J"⟩ prog_5_method_13_code 6 (some .long) : Cond) ∈ tb := List.mem_filter.mpr ⟨List.mem_of_getElem? (i := 511) (by decide +kernel), by decide +kernel⟩
theorem mw512 : (.constantLong "RoomEchoesModel" 65 1000000000 : Cond) ∈ tb := List.mem_filter.mpr ⟨List.mem_of_getElem? (i := 512) (by decide +kernel), by decide +kernel⟩
theorem mw513 : (.methodLink "RoomEchoesModel" 67 ⟨"RoomEchoesModel", "hitsLow", "(I)I"⟩ : Cond) ∈ tb := List.mem_filter.mpr ⟨List.mem_of_getElem? (i := 513) (by decide +kernel), by decide +kernel⟩
theorem mw514 : (.static ⟨"RoomEchoesModel", "hitsLow", "(I)I"⟩ : Cond) ∈ tb := List.mem_filter.mpr ⟨List.mem_of_getElem? (i := 514) (by decide +kernel), by decide +kernel⟩
theorem mw515 : (.code ⟨"RoomEchoesModel", "hitsLow", "(I)I"⟩ prog_5_method_10_code 1 (some .int) : Cond) ∈ tb := List.mem_filter.mpr ⟨List.mem_of_getElem? (i := 515) (by decide +kernel), by decide +kernel⟩
theorem mw516 : (.methodLink "RoomEchoesModel" 71 ⟨"RoomEchoesModel", "kept", "(JII)J"⟩ : Cond) ∈ tb := List.mem_filter.mpr ⟨List.mem_of_getElem? (i := 516) (by decide +kernel), by decide +kernel⟩
theorem mw518 : (.instanceMethod ⟨"RoomEchoesModel", "kept", "(JII)J"⟩ : Cond) ∈ tb := List.mem_filter.mpr ⟨List.mem_of_getElem? (i := 518) (by decide +kernel), by decide +kernel⟩
theorem mw519 : (.code ⟨"RoomEchoesModel", "kept", "(JII)J"⟩ prog_5_method_12_code 8 (some .long) : Cond) ∈ tb := List.mem_filter.mpr ⟨List.mem_of_getElem? (i := 519) (by decide +kernel), by decide +kernel⟩
theorem mw520 : (.methodLink "RoomEchoesModel" 75 ⟨"RoomEchoesModel", "hitsHigh", "(I)I"⟩ : Cond) ∈ tb := List.mem_filter.mpr ⟨List.mem_of_getElem? (i := 520) (by decide +kernel), by decide +kernel⟩
theorem mw521 : (.static ⟨"RoomEchoesModel", "hitsHigh", "(I)I"⟩ : Cond) ∈ tb := List.mem_filter.mpr ⟨List.mem_of_getElem? (i := 521) (by decide +kernel), by decide +kernel⟩
theorem mw522 : (.code ⟨"RoomEchoesModel", "hitsHigh", "(I)I"⟩ prog_5_method_9_code 1 (some .int) : Cond) ∈ tb := List.mem_filter.mpr ⟨List.mem_of_getElem? (i := 522) (by decide +kernel), by decide +kernel⟩
theorem mw523 : (.methodLink "RoomEchoesModel" 85 ⟨"RoomEchoesModel", "hits", "(I)I"⟩ : Cond) ∈ tb := List.mem_filter.mpr ⟨List.mem_of_getElem? (i := 523) (by decide +kernel), by decide +kernel⟩
theorem mw524 : (.static ⟨"RoomEchoesModel", "hits", "(I)I"⟩ : Cond) ∈ tb := List.mem_filter.mpr ⟨List.mem_of_getElem? (i := 524) (by decide +kernel), by decide +kernel⟩
theorem mw525 : (.code ⟨"RoomEchoesModel", "hits", "(I)I"⟩ prog_5_method_14_code 1 (some .int) : Cond) ∈ tb := List.mem_filter.mpr ⟨List.mem_of_getElem? (i := 525) (by decide +kernel), by decide +kernel⟩
theorem mw526 : (.methodLink "RoomEchoesLaw" 84 ⟨"RoomEchoesModel", "echo", "(II)J"⟩ : Cond) ∈ tb := List.mem_filter.mpr ⟨List.mem_of_getElem? (i := 526) (by decide +kernel), by decide +kernel⟩
theorem mw527 : (.instanceMethod ⟨"RoomEchoesModel", "echo", "(II)J"⟩ : Cond) ∈ tb := List.mem_filter.mpr ⟨List.mem_of_getElem? (i := 527) (by decide +kernel), by decide +kernel⟩
theorem mw528 : (.selects "RoomEchoesModel" ⟨"RoomEchoesModel", "echo", "(II)J"⟩ ⟨"RoomEchoesModel", "echo", "(II)J"⟩ : Cond) ∈ tb := List.mem_filter.mpr ⟨List.mem_of_getElem? (i := 528) (by decide +kernel), by decide +kernel⟩
theorem mw529 : (.code ⟨"RoomEchoesModel", "echo", "(II)J"⟩ prog_5_method_23_code 3 (some .long) : Cond) ∈ tb := List.mem_filter.mpr ⟨List.mem_of_getElem? (i := 529) (by decide +kernel), by decide +kernel⟩
theorem mw530 : (.constantLong "RoomEchoesModel" 120 499 : Cond) ∈ tb := List.mem_filter.mpr ⟨List.mem_of_getElem? (i := 530) (by decide +kernel), by decide +kernel⟩
theorem mw531 : (.constantLong "RoomEchoesModel" 122 6 : Cond) ∈ tb := List.mem_filter.mpr ⟨List.mem_of_getElem? (i := 531) (by decide +kernel), by decide +kernel⟩
theorem mw532 : (.methodLink "RoomEchoesModel" 124 ⟨"RoomEchoesModel", "make", "()V"⟩ : Cond) ∈ tb := List.mem_filter.mpr ⟨List.mem_of_getElem? (i := 532) (by decide +kernel), by decide +kernel⟩
theorem mw534 : (.instanceMethod ⟨"RoomEchoesModel", "make", "()V"⟩ : Cond) ∈ tb := List.mem_filter.mpr ⟨List.mem_of_getElem? (i := 534) (by decide +kernel), by decide +kernel⟩
theorem mw535 : (.code ⟨"RoomEchoesModel", "make", "()V"⟩ prog_5_method_20_code 7 none : Cond) ∈ tb := List.mem_filter.mpr ⟨List.mem_of_getElem? (i := 535) (by decide +kernel), by decide +kernel⟩
theorem mw536 : (.methodLink "RoomEchoesModel" 101 ⟨"RoomEchoesModel", "prepare", "()V"⟩ : Cond) ∈ tb := List.mem_filter.mpr ⟨List.mem_of_getElem? (i := 536) (by decide +kernel), by decide +kernel⟩
theorem mw538 : (.instanceMethod ⟨"RoomEchoesModel", "prepare", "()V"⟩ : Cond) ∈ tb := List.mem_filter.mpr ⟨List.mem_of_getElem? (i := 538) (by decide +kernel), by decide +kernel⟩
theorem mw539 : (.code ⟨"RoomEchoesModel", "prepare", "()V"⟩ prog_5_method_18_code 6 none : Cond) ∈ tb := List.mem_filter.mpr ⟨List.mem_of_getElem? (i := 539) (by decide +kernel), by decide +kernel⟩
theorem mw540 : (.constantLong "RoomEchoesModel" 104 8000000000 : Cond) ∈ tb := List.mem_filter.mpr ⟨List.mem_of_getElem? (i := 540) (by decide +kernel), by decide +kernel⟩
theorem mw541 : (.constantLong "RoomEchoesModel" 106 2 : Cond) ∈ tb := List.mem_filter.mpr ⟨List.mem_of_getElem? (i := 541) (by decide +kernel), by decide +kernel⟩
theorem mw542 : (.methodLink "RoomEchoesModel" 108 ⟨"RoomEchoesModel", "isEnough", "(J)Z"⟩ : Cond) ∈ tb := List.mem_filter.mpr ⟨List.mem_of_getElem? (i := 542) (by decide +kernel), by decide +kernel⟩
theorem mw544 : (.instanceMethod ⟨"RoomEchoesModel", "isEnough", "(J)Z"⟩ : Cond) ∈ tb := List.mem_filter.mpr ⟨List.mem_of_getElem? (i := 544) (by decide +kernel), by decide +kernel⟩
theorem mw545 : (.code ⟨"RoomEchoesModel", "isEnough", "(J)Z"⟩ prog_5_method_19_code 9 (some .boolean) : Cond) ∈ tb := List.mem_filter.mpr ⟨List.mem_of_getElem? (i := 545) (by decide +kernel), by decide +kernel⟩
theorem mw546 : (.methodLink "RoomEchoesModel" 112 ⟨"RoomEchoesModel", "collect", "(IJJ)I"⟩ : Cond) ∈ tb := List.mem_filter.mpr ⟨List.mem_of_getElem? (i := 546) (by decide +kernel), by decide +kernel⟩
theorem mw548 : (.instanceMethod ⟨"RoomEchoesModel", "collect", "(IJJ)I"⟩ : Cond) ∈ tb := List.mem_filter.mpr ⟨List.mem_of_getElem? (i := 548) (by decide +kernel), by decide +kernel⟩
theorem mw549 : (.code ⟨"RoomEchoesModel", "collect", "(IJJ)I"⟩ prog_5_method_21_code 14 (some .int) : Cond) ∈ tb := List.mem_filter.mpr ⟨List.mem_of_getElem? (i := 549) (by decide +kernel), by decide +kernel⟩
theorem mw550 : (.methodLink "RoomEchoesModel" 116 ⟨"RoomEchoesModel", "put", "(IJIII)V"⟩ : Cond) ∈ tb := List.mem_filter.mpr ⟨List.mem_of_getElem? (i := 550) (by decide +kernel), by decide +kernel⟩
theorem mw552 : (.instanceMethod ⟨"RoomEchoesModel", "put", "(IJIII)V"⟩ : Cond) ∈ tb := List.mem_filter.mpr ⟨List.mem_of_getElem? (i := 552) (by decide +kernel), by decide +kernel⟩
theorem mw553 : (.code ⟨"RoomEchoesModel", "put", "(IJIII)V"⟩ prog_5_method_22_code 8 none : Cond) ∈ tb := List.mem_filter.mpr ⟨List.mem_of_getElem? (i := 553) (by decide +kernel), by decide +kernel⟩
theorem mw554 : (.methodLink "RoomEchoesLaw" 88 ⟨"RoomEchoesModel", "place", "(III)I"⟩ : Cond) ∈ tb := List.mem_filter.mpr ⟨List.mem_of_getElem? (i := 554) (by decide +kernel), by decide +kernel⟩
theorem mw555 : (.instanceMethod ⟨"RoomEchoesModel", "place", "(III)I"⟩ : Cond) ∈ tb := List.mem_filter.mpr ⟨List.mem_of_getElem? (i := 555) (by decide +kernel), by decide +kernel⟩
theorem mw556 : (.selects "RoomEchoesModel" ⟨"RoomEchoesModel", "place", "(III)I"⟩ ⟨"RoomEchoesModel", "place", "(III)I"⟩ : Cond) ∈ tb := List.mem_filter.mpr ⟨List.mem_of_getElem? (i := 556) (by decide +kernel), by decide +kernel⟩
theorem mw557 : (.code ⟨"RoomEchoesModel", "place", "(III)I"⟩ prog_5_method_24_code 6 (some .int) : Cond) ∈ tb := List.mem_filter.mpr ⟨List.mem_of_getElem? (i := 557) (by decide +kernel), by decide +kernel⟩
theorem mw558 : (.methodLink "RoomEchoesLaw" 94 ⟨"RoomEchoesModel", "until", "(J)I"⟩ : Cond) ∈ tb := List.mem_filter.mpr ⟨List.mem_of_getElem? (i := 558) (by decide +kernel), by decide +kernel⟩
theorem mw559 : (.instanceMethod ⟨"RoomEchoesModel", "until", "(J)I"⟩ : Cond) ∈ tb := List.mem_filter.mpr ⟨List.mem_of_getElem? (i := 559) (by decide +kernel), by decide +kernel⟩
theorem mw560 : (.selects "RoomEchoesModel" ⟨"RoomEchoesModel", "until", "(J)I"⟩ ⟨"RoomEchoesModel", "until", "(J)I"⟩ : Cond) ∈ tb := List.mem_filter.mpr ⟨List.mem_of_getElem? (i := 560) (by decide +kernel), by decide +kernel⟩
theorem mw561 : (.code ⟨"RoomEchoesModel", "until", "(J)I"⟩ prog_5_method_26_code 3 (some .int) : Cond) ∈ tb := List.mem_filter.mpr ⟨List.mem_of_getElem? (i := 561) (by decide +kernel), by decide +kernel⟩
theorem mw562 : (.methodLink "RoomEchoesModel" 127 ⟨"RoomEchoesModel", "countUntil", "(J)I"⟩ : Cond) ∈ tb := List.mem_filter.mpr ⟨List.mem_of_getElem? (i := 562) (by decide +kernel), by decide +kernel⟩
theorem mw564 : (.instanceMethod ⟨"RoomEchoesModel", "countUntil", "(J)I"⟩ : Cond) ∈ tb := List.mem_filter.mpr ⟨List.mem_of_getElem? (i := 564) (by decide +kernel), by decide +kernel⟩
theorem mw565 : (.code ⟨"RoomEchoesModel", "countUntil", "(J)I"⟩ prog_5_method_25_code 4 (some .int) : Cond) ∈ tb := List.mem_filter.mpr ⟨List.mem_of_getElem? (i := 565) (by decide +kernel), by decide +kernel⟩
theorem mw566 : (.methodLink "RoomEchoesLaw" 97 ⟨"RoomEchoesModel", "loud", "(II)J"⟩ : Cond) ∈ tb := List.mem_filter.mpr ⟨List.mem_of_getElem? (i := 566) (by decide +kernel), by decide +kernel⟩
theorem mw567 : (.instanceMethod ⟨"RoomEchoesModel", "loud", "(II)J"⟩ : Cond) ∈ tb := List.mem_filter.mpr ⟨List.mem_of_getElem? (i := 567) (by decide +kernel), by decide +kernel⟩
theorem mw568 : (.selects "RoomEchoesModel" ⟨"RoomEchoesModel", "loud", "(II)J"⟩ ⟨"RoomEchoesModel", "loud", "(II)J"⟩ : Cond) ∈ tb := List.mem_filter.mpr ⟨List.mem_of_getElem? (i := 568) (by decide +kernel), by decide +kernel⟩
theorem mw569 : (.code ⟨"RoomEchoesModel", "loud", "(II)J"⟩ prog_5_method_29_code 3 (some .long) : Cond) ∈ tb := List.mem_filter.mpr ⟨List.mem_of_getElem? (i := 569) (by decide +kernel), by decide +kernel⟩
theorem mw570 : (.methodLink "RoomEchoesModel" 135 ⟨"RoomEchoesModel", "first", "(I)J"⟩ : Cond) ∈ tb := List.mem_filter.mpr ⟨List.mem_of_getElem? (i := 570) (by decide +kernel), by decide +kernel⟩
theorem mw572 : (.instanceMethod ⟨"RoomEchoesModel", "first", "(I)J"⟩ : Cond) ∈ tb := List.mem_filter.mpr ⟨List.mem_of_getElem? (i := 572) (by decide +kernel), by decide +kernel⟩
theorem mw573 : (.code ⟨"RoomEchoesModel", "first", "(I)J"⟩ prog_5_method_28_code 5 (some .long) : Cond) ∈ tb := List.mem_filter.mpr ⟨List.mem_of_getElem? (i := 573) (by decide +kernel), by decide +kernel⟩
theorem mw574 : (.methodLink "RoomEchoesModel" 131 ⟨"RoomEchoesModel", "loudness", "(I)J"⟩ : Cond) ∈ tb := List.mem_filter.mpr ⟨List.mem_of_getElem? (i := 574) (by decide +kernel), by decide +kernel⟩
theorem mw576 : (.instanceMethod ⟨"RoomEchoesModel", "loudness", "(I)J"⟩ : Cond) ∈ tb := List.mem_filter.mpr ⟨List.mem_of_getElem? (i := 576) (by decide +kernel), by decide +kernel⟩
theorem mw577 : (.code ⟨"RoomEchoesModel", "loudness", "(I)J"⟩ prog_5_method_27_code 2 (some .long) : Cond) ∈ tb := List.mem_filter.mpr ⟨List.mem_of_getElem? (i := 577) (by decide +kernel), by decide +kernel⟩
theorem mw578 : (.methodLink "RoomEchoesLaw" 101 ⟨"RoomEchoesModel", "early", "(JI)J"⟩ : Cond) ∈ tb := List.mem_filter.mpr ⟨List.mem_of_getElem? (i := 578) (by decide +kernel), by decide +kernel⟩
theorem mw579 : (.instanceMethod ⟨"RoomEchoesModel", "early", "(JI)J"⟩ : Cond) ∈ tb := List.mem_filter.mpr ⟨List.mem_of_getElem? (i := 579) (by decide +kernel), by decide +kernel⟩
theorem mw580 : (.selects "RoomEchoesModel" ⟨"RoomEchoesModel", "early", "(JI)J"⟩ ⟨"RoomEchoesModel", "early", "(JI)J"⟩ : Cond) ∈ tb := List.mem_filter.mpr ⟨List.mem_of_getElem? (i := 580) (by decide +kernel), by decide +kernel⟩
theorem mw581 : (.code ⟨"RoomEchoesModel", "early", "(JI)J"⟩ prog_5_method_31_code 10 (some .long) : Cond) ∈ tb := List.mem_filter.mpr ⟨List.mem_of_getElem? (i := 581) (by decide +kernel), by decide +kernel⟩
theorem mw582 : (.methodLink "RoomEchoesModel" 138 ⟨"RoomEchoesModel", "common", "(JJ)J"⟩ : Cond) ∈ tb := List.mem_filter.mpr ⟨List.mem_of_getElem? (i := 582) (by decide +kernel), by decide +kernel⟩
theorem mw583 : (.static ⟨"RoomEchoesModel", "common", "(JJ)J"⟩ : Cond) ∈ tb := List.mem_filter.mpr ⟨List.mem_of_getElem? (i := 583) (by decide +kernel), by decide +kernel⟩
theorem mw584 : (.code ⟨"RoomEchoesModel", "common", "(JJ)J"⟩ prog_5_method_30_code 10 (some .long) : Cond) ∈ tb := List.mem_filter.mpr ⟨List.mem_of_getElem? (i := 584) (by decide +kernel), by decide +kernel⟩
theorem mw585 : (.methodLink "RoomEchoesLaw" 105 ⟨"RoomEchoesModel", "enough", "(I)I"⟩ : Cond) ∈ tb := List.mem_filter.mpr ⟨List.mem_of_getElem? (i := 585) (by decide +kernel), by decide +kernel⟩
theorem mw586 : (.instanceMethod ⟨"RoomEchoesModel", "enough", "(I)I"⟩ : Cond) ∈ tb := List.mem_filter.mpr ⟨List.mem_of_getElem? (i := 586) (by decide +kernel), by decide +kernel⟩
theorem mw587 : (.selects "RoomEchoesModel" ⟨"RoomEchoesModel", "enough", "(I)I"⟩ ⟨"RoomEchoesModel", "enough", "(I)I"⟩ : Cond) ∈ tb := List.mem_filter.mpr ⟨List.mem_of_getElem? (i := 587) (by decide +kernel), by decide +kernel⟩
theorem mw588 : (.code ⟨"RoomEchoesModel", "enough", "(I)I"⟩ prog_5_method_32_code 7 (some .int) : Cond) ∈ tb := List.mem_filter.mpr ⟨List.mem_of_getElem? (i := 588) (by decide +kernel), by decide +kernel⟩
theorem mw589 : (.methodLink "RoomEchoesLaw" 108 ⟨"RoomEchoesModel", "loudest", "(I)I"⟩ : Cond) ∈ tb := List.mem_filter.mpr ⟨List.mem_of_getElem? (i := 589) (by decide +kernel), by decide +kernel⟩
theorem mw590 : (.instanceMethod ⟨"RoomEchoesModel", "loudest", "(I)I"⟩ : Cond) ∈ tb := List.mem_filter.mpr ⟨List.mem_of_getElem? (i := 590) (by decide +kernel), by decide +kernel⟩
theorem mw591 : (.selects "RoomEchoesModel" ⟨"RoomEchoesModel", "loudest", "(I)I"⟩ ⟨"RoomEchoesModel", "loudest", "(I)I"⟩ : Cond) ∈ tb := List.mem_filter.mpr ⟨List.mem_of_getElem? (i := 591) (by decide +kernel), by decide +kernel⟩
theorem mw592 : (.code ⟨"RoomEchoesModel", "loudest", "(I)I"⟩ prog_5_method_33_code 4 (some .int) : Cond) ∈ tb := List.mem_filter.mpr ⟨List.mem_of_getElem? (i := 592) (by decide +kernel), by decide +kernel⟩
theorem mw593 : (.constantLong "RoomEchoesModel" 142 (-1) : Cond) ∈ tb := List.mem_filter.mpr ⟨List.mem_of_getElem? (i := 593) (by decide +kernel), by decide +kernel⟩
theorem mw594 : (.constantLong "RoomEchoesLaw" 89 4294967295 : Cond) ∈ tb := List.mem_filter.mpr ⟨List.mem_of_getElem? (i := 594) (by decide +kernel), by decide +kernel⟩
