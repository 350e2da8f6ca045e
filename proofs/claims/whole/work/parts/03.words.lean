theorem mw333 : (.instanceMethod ⟨"RoomEchoes$Frontier", "sinkFromTop", "(J)V"⟩ : Cond) ∈ tb := List.mem_filter.mpr ⟨List.mem_of_getElem? (i := 333) (by decide +kernel), by decide +kernel⟩
theorem mw334 : (.code ⟨"RoomEchoes$Frontier", "sinkFromTop", "(J)V"⟩ prog_3_method_5_code 5 none : Cond) ∈ tb := List.mem_filter.mpr ⟨List.mem_of_getElem? (i := 334) (by decide +kernel), by decide +kernel⟩
theorem mw335 : (.methodLink "RoomEchoes$Frontier" 23 ⟨"RoomEchoes$Frontier", "lesserOf", "(I)I"⟩ : Cond) ∈ tb := List.mem_filter.mpr ⟨List.mem_of_getElem? (i := 335) (by decide +kernel), by decide +kernel⟩
theorem mw337 : (.instanceMethod ⟨"RoomEchoes$Frontier", "lesserOf", "(I)I"⟩ : Cond) ∈ tb := List.mem_filter.mpr ⟨List.mem_of_getElem? (i := 337) (by decide +kernel), by decide +kernel⟩
theorem mw338 : (.code ⟨"RoomEchoes$Frontier", "lesserOf", "(I)I"⟩ prog_3_method_6_code 3 (some .int) : Cond) ∈ tb := List.mem_filter.mpr ⟨List.mem_of_getElem? (i := 338) (by decide +kernel), by decide +kernel⟩
theorem mw339 : (.methodLink "RoomEchoes" 195 ⟨"RoomEchoes", "addFollowers", "(J)V"⟩ : Cond) ∈ tb := List.mem_filter.mpr ⟨List.mem_of_getElem? (i := 339) (by decide +kernel), by decide +kernel⟩
theorem mw341 : (.instanceMethod ⟨"RoomEchoes", "addFollowers", "(J)V"⟩ : Cond) ∈ tb := List.mem_filter.mpr ⟨List.mem_of_getElem? (i := 341) (by decide +kernel), by decide +kernel⟩
theorem mw342 : (.code ⟨"RoomEchoes", "addFollowers", "(J)V"⟩ prog_1_method_36_code 6 none : Cond) ∈ tb := List.mem_filter.mpr ⟨List.mem_of_getElem? (i := 342) (by decide +kernel), by decide +kernel⟩
theorem mw343 : (.methodLink "RoomEchoes" 88 ⟨"RoomEchoes", "firstNumberIn", "(J)I"⟩ : Cond) ∈ tb := List.mem_filter.mpr ⟨List.mem_of_getElem? (i := 343) (by decide +kernel), by decide +kernel⟩
theorem mw344 : (.static ⟨"RoomEchoes", "firstNumberIn", "(J)I"⟩ : Cond) ∈ tb := List.mem_filter.mpr ⟨List.mem_of_getElem? (i := 344) (by decide +kernel), by decide +kernel⟩
theorem mw345 : (.code ⟨"RoomEchoes", "firstNumberIn", "(J)I"⟩ prog_1_method_31_code 2 (some .int) : Cond) ∈ tb := List.mem_filter.mpr ⟨List.mem_of_getElem? (i := 345) (by decide +kernel), by decide +kernel⟩
theorem mw346 : (.methodLink "RoomEchoes" 176 ⟨"RoomEchoes", "lowestNumberIn", "(J)I"⟩ : Cond) ∈ tb := List.mem_filter.mpr ⟨List.mem_of_getElem? (i := 346) (by decide +kernel), by decide +kernel⟩
theorem mw347 : (.methodLink "RoomEchoes" 198 ⟨"RoomEchoes$Axis", "rankOf", "(I)I"⟩ : Cond) ∈ tb := List.mem_filter.mpr ⟨List.mem_of_getElem? (i := 347) (by decide +kernel), by decide +kernel⟩
theorem mw348 : (.instanceMethod ⟨"RoomEchoes$Axis", "rankOf", "(I)I"⟩ : Cond) ∈ tb := List.mem_filter.mpr ⟨List.mem_of_getElem? (i := 348) (by decide +kernel), by decide +kernel⟩
theorem mw349 : (.selects "RoomEchoes$Axis" ⟨"RoomEchoes$Axis", "rankOf", "(I)I"⟩ ⟨"RoomEchoes$Axis", "rankOf", "(I)I"⟩ : Cond) ∈ tb := List.mem_filter.mpr ⟨List.mem_of_getElem? (i := 349) (by decide +kernel), by decide +kernel⟩
theorem mw350 : (.code ⟨"RoomEchoes$Axis", "rankOf", "(I)I"⟩ prog_2_method_8_code 3 (some .int) : Cond) ∈ tb := List.mem_filter.mpr ⟨List.mem_of_getElem? (i := 350) (by decide +kernel), by decide +kernel⟩
theorem mw351 : (.methodLink "RoomEchoes" 92 ⟨"RoomEchoes", "secondNumberIn", "(J)I"⟩ : Cond) ∈ tb := List.mem_filter.mpr ⟨List.mem_of_getElem? (i := 351) (by decide +kernel), by decide +kernel⟩
theorem mw352 : (.static ⟨"RoomEchoes", "secondNumberIn", "(J)I"⟩ : Cond) ∈ tb := List.mem_filter.mpr ⟨List.mem_of_getElem? (i := 352) (by decide +kernel), by decide +kernel⟩
theorem mw353 : (.code ⟨"RoomEchoes", "secondNumberIn", "(J)I"⟩ prog_1_method_32_code 2 (some .int) : Cond) ∈ tb := List.mem_filter.mpr ⟨List.mem_of_getElem? (i := 353) (by decide +kernel), by decide +kernel⟩
theorem mw354 : (.methodLink "RoomEchoes" 95 ⟨"RoomEchoes", "thirdNumberIn", "(J)I"⟩ : Cond) ∈ tb := List.mem_filter.mpr ⟨List.mem_of_getElem? (i := 354) (by decide +kernel), by decide +kernel⟩
theorem mw355 : (.static ⟨"RoomEchoes", "thirdNumberIn", "(J)I"⟩ : Cond) ∈ tb := List.mem_filter.mpr ⟨List.mem_of_getElem? (i := 355) (by decide +kernel), by decide +kernel⟩
theorem mw356 : (.code ⟨"RoomEchoes", "thirdNumberIn", "(J)I"⟩ prog_1_method_33_code 2 (some .int) : Cond) ∈ tb := List.mem_filter.mpr ⟨List.mem_of_getElem? (i := 356) (by decide +kernel), by decide +kernel⟩
theorem mw357 : (.methodLink "RoomEchoes" 98 ⟨"RoomEchoes", "image", "(IIII)J"⟩ : Cond) ∈ tb := List.mem_filter.mpr ⟨List.mem_of_getElem? (i := 357) (by decide +kernel), by decide +kernel⟩
theorem mw358 : (.methodLink "RoomEchoesLaw" 85 ⟨"RoomEchoesLaw", "place", "(LRoomEchoes;III[J)I"⟩ : Cond) ∈ tb := List.mem_filter.mpr ⟨List.mem_of_getElem? (i := 358) (by decide +kernel), by decide +kernel⟩
theorem mw359 : (.static ⟨"RoomEchoesLaw", "place", "(LRoomEchoes;III[J)I"⟩ : Cond) ∈ tb := List.mem_filter.mpr ⟨List.mem_of_getElem? (i := 359) (by decide +kernel), by decide +kernel⟩
theorem mw360 : (.codeWith ⟨"RoomEchoesLaw", "place", "(LRoomEchoes;III[J)I"⟩ method_8_code 6 (some .int) [(0, 12, 15, 13)] : Cond) ∈ tb := List.mem_filter.mpr ⟨List.mem_of_getElem? (i := 360) (by decide +kernel), by decide +kernel⟩
theorem mw361 : (.methodLink "RoomEchoesLaw" 30 ⟨"RoomEchoes", "place", "(III)I"⟩ : Cond) ∈ tb := List.mem_filter.mpr ⟨List.mem_of_getElem? (i := 361) (by decide +kernel), by decide +kernel⟩
theorem mw362 : (.instanceMethod ⟨"RoomEchoes", "place", "(III)I"⟩ : Cond) ∈ tb := List.mem_filter.mpr ⟨List.mem_of_getElem? (i := 362) (by decide +kernel), by decide +kernel⟩
theorem mw363 : (.selects "RoomEchoes" ⟨"RoomEchoes", "place", "(III)I"⟩ ⟨"RoomEchoes", "place", "(III)I"⟩ : Cond) ∈ tb := List.mem_filter.mpr ⟨List.mem_of_getElem? (i := 363) (by decide +kernel), by decide +kernel⟩
theorem mw364 : (.code ⟨"RoomEchoes", "place", "(III)I"⟩ prog_1_method_7_code 7 (some .int) : Cond) ∈ tb := List.mem_filter.mpr ⟨List.mem_of_getElem? (i := 364) (by decide +kernel), by decide +kernel⟩
theorem mw365 : (.methodLink "RoomEchoesLaw" 91 ⟨"RoomEchoesLaw", "until", "(LRoomEchoes;J[J)I"⟩ : Cond) ∈ tb := List.mem_filter.mpr ⟨List.mem_of_getElem? (i := 365) (by decide +kernel), by decide +kernel⟩
theorem mw366 : (.static ⟨"RoomEchoesLaw", "until", "(LRoomEchoes;J[J)I"⟩ : Cond) ∈ tb := List.mem_filter.mpr ⟨List.mem_of_getElem? (i := 366) (by decide +kernel), by decide +kernel⟩
theorem mw367 : (.codeWith ⟨"RoomEchoesLaw", "until", "(LRoomEchoes;J[J)I"⟩ method_9_code 5 (some .int) [(0, 9, 12, 13)] : Cond) ∈ tb := List.mem_filter.mpr ⟨List.mem_of_getElem? (i := 367) (by decide +kernel), by decide +kernel⟩
theorem mw368 : (.methodLink "RoomEchoesLaw" 34 ⟨"RoomEchoes", "until", "(J)I"⟩ : Cond) ∈ tb := List.mem_filter.mpr ⟨List.mem_of_getElem? (i := 368) (by decide +kernel), by decide +kernel⟩
theorem mw369 : (.instanceMethod ⟨"RoomEchoes", "until", "(J)I"⟩ : Cond) ∈ tb := List.mem_filter.mpr ⟨List.mem_of_getElem? (i := 369) (by decide +kernel), by decide +kernel⟩
theorem mw370 : (.selects "RoomEchoes" ⟨"RoomEchoes", "until", "(J)I"⟩ ⟨"RoomEchoes", "until", "(J)I"⟩ : Cond) ∈ tb := List.mem_filter.mpr ⟨List.mem_of_getElem? (i := 370) (by decide +kernel), by decide +kernel⟩
theorem mw371 : (.code ⟨"RoomEchoes", "until", "(J)I"⟩ prog_1_method_8_code 3 (some .int) : Cond) ∈ tb := List.mem_filter.mpr ⟨List.mem_of_getElem? (i := 371) (by decide +kernel), by decide +kernel⟩
theorem mw372 : (.methodLink "RoomEchoes" 106 ⟨"RoomEchoes", "requireDistance", "(J)V"⟩ : Cond) ∈ tb := List.mem_filter.mpr ⟨List.mem_of_getElem? (i := 372) (by decide +kernel), by decide +kernel⟩
theorem mw373 : (.static ⟨"RoomEchoes", "requireDistance", "(J)V"⟩ : Cond) ∈ tb := List.mem_filter.mpr ⟨List.mem_of_getElem? (i := 373) (by decide +kernel), by decide +kernel⟩
theorem mw374 : (.code ⟨"RoomEchoes", "requireDistance", "(J)V"⟩ prog_1_method_15_code 2 none : Cond) ∈ tb := List.mem_filter.mpr ⟨List.mem_of_getElem? (i := 374) (by decide +kernel), by decide +kernel⟩
theorem mw376 : (.methodLink "RoomEchoes" 110 ⟨"RoomEchoes", "countWithin", "(J)I"⟩ : Cond) ∈ tb := List.mem_filter.mpr ⟨List.mem_of_getElem? (i := 376) (by decide +kernel), by decide +kernel⟩
theorem mw378 : (.instanceMethod ⟨"RoomEchoes", "countWithin", "(J)I"⟩ : Cond) ∈ tb := List.mem_filter.mpr ⟨List.mem_of_getElem? (i := 378) (by decide +kernel), by decide +kernel⟩
theorem mw379 : (.code ⟨"RoomEchoes", "countWithin", "(J)I"⟩ prog_1_method_39_code 4 (some .int) : Cond) ∈ tb := List.mem_filter.mpr ⟨List.mem_of_getElem? (i := 379) (by decide +kernel), by decide +kernel⟩
theorem mw380 : (.methodLink "RoomEchoes" 210 ⟨"RoomEchoes", "distanceIn", "(J)J"⟩ : Cond) ∈ tb := List.mem_filter.mpr ⟨List.mem_of_getElem? (i := 380) (by decide +kernel), by decide +kernel⟩
theorem mw381 : (.static ⟨"RoomEchoes", "distanceIn", "(J)J"⟩ : Cond) ∈ tb := List.mem_filter.mpr ⟨List.mem_of_getElem? (i := 381) (by decide +kernel), by decide +kernel⟩
theorem mw382 : (.code ⟨"RoomEchoes", "distanceIn", "(J)J"⟩ prog_1_method_30_code 2 (some .long) : Cond) ∈ tb := List.mem_filter.mpr ⟨List.mem_of_getElem? (i := 382) (by decide +kernel), by decide +kernel⟩
theorem mw383 : (.methodLink "RoomEchoesLaw" 95 ⟨"RoomEchoesLaw", "loud", "(LRoomEchoes;II[J)I"⟩ : Cond) ∈ tb := List.mem_filter.mpr ⟨List.mem_of_getElem? (i := 383) (by decide +kernel), by decide +kernel⟩
theorem mw384 : (.static ⟨"RoomEchoesLaw", "loud", "(LRoomEchoes;II[J)I"⟩ : Cond) ∈ tb := List.mem_filter.mpr ⟨List.mem_of_getElem? (i := 384) (by decide +kernel), by decide +kernel⟩
theorem mw385 : (.codeWith ⟨"RoomEchoesLaw", "loud", "(LRoomEchoes;II[J)I"⟩ method_10_code 5 (some .int) [(0, 9, 12, 13)] : Cond) ∈ tb := List.mem_filter.mpr ⟨List.mem_of_getElem? (i := 385) (by decide +kernel), by decide +kernel⟩
theorem mw386 : (.methodLink "RoomEchoesLaw" 38 ⟨"RoomEchoes", "loud", "(II)J"⟩ : Cond) ∈ tb := List.mem_filter.mpr ⟨List.mem_of_getElem? (i := 386) (by decide +kernel), by decide +kernel⟩
theorem mw387 : (.instanceMethod ⟨"RoomEchoes", "loud", "(II)J"⟩ : Cond) ∈ tb := List.mem_filter.mpr ⟨List.mem_of_getElem? (i := 387) (by decide +kernel), by decide +kernel⟩
theorem mw388 : (.selects "RoomEchoes" ⟨"RoomEchoes", "loud", "(II)J"⟩ ⟨"RoomEchoes", "loud", "(II)J"⟩ : Cond) ∈ tb := List.mem_filter.mpr ⟨List.mem_of_getElem? (i := 388) (by decide +kernel), by decide +kernel⟩
theorem mw389 : (.code ⟨"RoomEchoes", "loud", "(II)J"⟩ prog_1_method_9_code 3 (some .long) : Cond) ∈ tb := List.mem_filter.mpr ⟨List.mem_of_getElem? (i := 389) (by decide +kernel), by decide +kernel⟩
theorem mw390 : (.methodLink "RoomEchoes" 113 ⟨"RoomEchoes", "weighEchoes", "()V"⟩ : Cond) ∈ tb := List.mem_filter.mpr ⟨List.mem_of_getElem? (i := 390) (by decide +kernel), by decide +kernel⟩
theorem mw392 : (.instanceMethod ⟨"RoomEchoes", "weighEchoes", "()V"⟩ : Cond) ∈ tb := List.mem_filter.mpr ⟨List.mem_of_getElem? (i := 392) (by decide +kernel), by decide +kernel⟩
theorem mw393 : (.code ⟨"RoomEchoes", "weighEchoes", "()V"⟩ prog_1_method_38_code 6 none : Cond) ∈ tb := List.mem_filter.mpr ⟨List.mem_of_getElem? (i := 393) (by decide +kernel), by decide +kernel⟩
theorem mw394 : (.methodLink "RoomEchoes" 116 ⟨"RoomEchoes", "loudnessBetween", "(II)J"⟩ : Cond) ∈ tb := List.mem_filter.mpr ⟨List.mem_of_getElem? (i := 394) (by decide +kernel), by decide +kernel⟩
theorem mw396 : (.instanceMethod ⟨"RoomEchoes", "loudnessBetween", "(II)J"⟩ : Cond) ∈ tb := List.mem_filter.mpr ⟨List.mem_of_getElem? (i := 396) (by decide +kernel), by decide +kernel⟩
theorem mw397 : (.code ⟨"RoomEchoes", "loudnessBetween", "(II)J"⟩ prog_1_method_40_code 6 (some .long) : Cond) ∈ tb := List.mem_filter.mpr ⟨List.mem_of_getElem? (i := 397) (by decide +kernel), by decide +kernel⟩
theorem mw398 : (.methodLink "RoomEchoesLaw" 98 ⟨"RoomEchoesLaw", "early", "(LRoomEchoes;JI[J)I"⟩ : Cond) ∈ tb := List.mem_filter.mpr ⟨List.mem_of_getElem? (i := 398) (by decide +kernel), by decide +kernel⟩
theorem mw399 : (.static ⟨"RoomEchoesLaw", "early", "(LRoomEchoes;JI[J)I"⟩ : Cond) ∈ tb := List.mem_filter.mpr ⟨List.mem_of_getElem? (i := 399) (by decide +kernel), by decide +kernel⟩
theorem mw400 : (.codeWith ⟨"RoomEchoesLaw", "early", "(LRoomEchoes;JI[J)I"⟩ method_11_code 6 (some .int) [(0, 10, 13, 13)] : Cond) ∈ tb := List.mem_filter.mpr ⟨List.mem_of_getElem? (i := 400) (by decide +kernel), by decide +kernel⟩
theorem mw401 : (.methodLink "RoomEchoesLaw" 41 ⟨"RoomEchoes", "early", "(JI)J"⟩ : Cond) ∈ tb := List.mem_filter.mpr ⟨List.mem_of_getElem? (i := 401) (by decide +kernel), by decide +kernel⟩
theorem mw402 : (.instanceMethod ⟨"RoomEchoes", "early", "(JI)J"⟩ : Cond) ∈ tb := List.mem_filter.mpr ⟨List.mem_of_getElem? (i := 402) (by decide +kernel), by decide +kernel⟩
theorem mw403 : (.selects "RoomEchoes" ⟨"RoomEchoes", "early", "(JI)J"⟩ ⟨"RoomEchoes", "early", "(JI)J"⟩ : Cond) ∈ tb := List.mem_filter.mpr ⟨List.mem_of_getElem? (i := 403) (by decide +kernel), by decide +kernel⟩
theorem mw404 : (.code ⟨"RoomEchoes", "early", "(JI)J"⟩ prog_1_method_10_code 10 (some .long) : Cond) ∈ tb := List.mem_filter.mpr ⟨List.mem_of_getElem? (i := 404) (by decide +kernel), by decide +kernel⟩
theorem mw405 : (.methodLink "RoomEchoes" 120 ⟨"RoomEchoes", "greatestCommonDivisor", "(JJ)J"⟩ : Cond) ∈ tb := List.mem_filter.mpr ⟨List.mem_of_getElem? (i := 405) (by decide +kernel), by decide +kernel⟩
theorem mw406 : (.static ⟨"RoomEchoes", "greatestCommonDivisor", "(JJ)J"⟩ : Cond) ∈ tb := List.mem_filter.mpr ⟨List.mem_of_getElem? (i := 406) (by decide +kernel), by decide +kernel⟩
theorem mw407 : (.code ⟨"RoomEchoes", "greatestCommonDivisor", "(JJ)J"⟩ prog_1_method_41_code 11 (some .long) : Cond) ∈ tb := List.mem_filter.mpr ⟨List.mem_of_getElem? (i := 407) (by decide +kernel), by decide +kernel⟩
theorem mw408 : (.methodLink "RoomEchoesLaw" 102 ⟨"RoomEchoesLaw", "enough", "(LRoomEchoes;I[J)I"⟩ : Cond) ∈ tb := List.mem_filter.mpr ⟨List.mem_of_getElem? (i := 408) (by decide +kernel), by decide +kernel⟩
theorem mw409 : (.static ⟨"RoomEchoesLaw", "enough", "(LRoomEchoes;I[J)I"⟩ : Cond) ∈ tb := List.mem_filter.mpr ⟨List.mem_of_getElem? (i := 409) (by decide +kernel), by decide +kernel⟩
theorem mw410 : (.codeWith ⟨"RoomEchoesLaw", "enough", "(LRoomEchoes;I[J)I"⟩ method_12_code 4 (some .int) [(0, 9, 12, 13)] : Cond) ∈ tb := List.mem_filter.mpr ⟨List.mem_of_getElem? (i := 410) (by decide +kernel), by decide +kernel⟩
theorem mw411 : (.methodLink "RoomEchoesLaw" 45 ⟨"RoomEchoes", "enough", "(I)I"⟩ : Cond) ∈ tb := List.mem_filter.mpr ⟨List.mem_of_getElem? (i := 411) (by decide +kernel), by decide +kernel⟩
theorem mw412 : (.instanceMethod ⟨"RoomEchoes", "enough", "(I)I"⟩ : Cond) ∈ tb := List.mem_filter.mpr ⟨List.mem_of_getElem? (i := 412) (by decide +kernel), by decide +kernel⟩
theorem mw413 : (.selects "RoomEchoes" ⟨"RoomEchoes", "enough", "(I)I"⟩ ⟨"RoomEchoes", "enough", "(I)I"⟩ : Cond) ∈ tb := List.mem_filter.mpr ⟨List.mem_of_getElem? (i := 413) (by decide +kernel), by decide +kernel⟩
theorem mw414 : (.code ⟨"RoomEchoes", "enough", "(I)I"⟩ prog_1_method_11_code 7 (some .int) : Cond) ∈ tb := List.mem_filter.mpr ⟨List.mem_of_getElem? (i := 414) (by decide +kernel), by decide +kernel⟩
theorem mw415 : (.methodLink "RoomEchoesLaw" 106 ⟨"RoomEchoesLaw", "loudest", "(LRoomEchoes;I[J)I"⟩ : Cond) ∈ tb := List.mem_filter.mpr ⟨List.mem_of_getElem? (i := 415) (by decide +kernel), by decide +kernel⟩
theorem mw416 : (.static ⟨"RoomEchoesLaw", "loudest", "(LRoomEchoes;I[J)I"⟩ : Cond) ∈ tb := List.mem_filter.mpr ⟨List.mem_of_getElem? (i := 416) (by decide +kernel), by decide +kernel⟩
theorem mw417 : (.codeWith ⟨"RoomEchoesLaw", "loudest", "(LRoomEchoes;I[J)I"⟩ method_13_code 4 (some .int) [(0, 9, 12, 13)] : Cond) ∈ tb := List.mem_filter.mpr ⟨List.mem_of_getElem? (i := 417) (by decide +kernel), by decide +kernel⟩
theorem mw418 : (.methodLink "RoomEchoesLaw" 49 ⟨"RoomEchoes", "loudest", "(I)I"⟩ : Cond) ∈ tb := List.mem_filter.mpr ⟨List.mem_of_getElem? (i := 418) (by decide +kernel), by decide +kernel⟩
theorem mw419 : (.instanceMethod ⟨"RoomEchoes", "loudest", "(I)I"⟩ : Cond) ∈ tb := List.mem_filter.mpr ⟨List.mem_of_getElem? (i := 419) (by decide +kernel), by decide +kernel⟩
theorem mw420 : (.selects "RoomEchoes" ⟨"RoomEchoes", "loudest", "(I)I"⟩ ⟨"RoomEchoes", "loudest", "(I)I"⟩ : Cond) ∈ tb := List.mem_filter.mpr ⟨List.mem_of_getElem? (i := 420) (by decide +kernel), by decide +kernel⟩
theorem mw421 : (.code ⟨"RoomEchoes", "loudest", "(I)I"⟩ prog_1_method_12_code 6 (some .int) : Cond) ∈ tb := List.mem_filter.mpr ⟨List.mem_of_getElem? (i := 421) (by decide +kernel), by decide +kernel⟩
theorem mw422 : (.constantLong "RoomEchoes" 125 (-1) : Cond) ∈ tb := List.mem_filter.mpr ⟨List.mem_of_getElem? (i := 422) (by decide +kernel), by decide +kernel⟩
theorem mw423 : (.classLink "RoomEchoesLaw" 60 "RoomEchoesModel" : Cond) ∈ tb := List.mem_filter.mpr ⟨List.mem_of_getElem? (i := 423) (by decide +kernel), by decide +kernel⟩
theorem mw424 : (.instantiable "RoomEchoesModel" 12 : Cond) ∈ tb := List.mem_filter.mpr ⟨List.mem_of_getElem? (i := 424) (by decide +kernel), by decide +kernel⟩
theorem mw425 : (.methodLink "RoomEchoesLaw" 62 ⟨"RoomEchoesModel", "<init>", "(III)V"⟩ : Cond) ∈ tb := List.mem_filter.mpr ⟨List.mem_of_getElem? (i := 425) (by decide +kernel), by decide +kernel⟩
theorem mw426 : (.instanceMethod ⟨"RoomEchoesModel", "<init>", "(III)V"⟩ : Cond) ∈ tb := List.mem_filter.mpr ⟨List.mem_of_getElem? (i := 426) (by decide +kernel), by decide +kernel⟩
theorem mw427 : (.code ⟨"RoomEchoesModel", "<init>", "(III)V"⟩ prog_5_method_1_code 5 none : Cond) ∈ tb := List.mem_filter.mpr ⟨List.mem_of_getElem? (i := 427) (by decide +kernel), by decide +kernel⟩
theorem mw428 : (.methodLink "RoomEchoesModel" 1 ⟨"java/lang/Object", "<init>", "()V"⟩ : Cond) ∈ tb := List.mem_filter.mpr ⟨List.mem_of_getElem? (i := 428) (by decide +kernel), by decide +kernel⟩
theorem mw429 : (.fieldLink "RoomEchoesModel" 41 "RoomEchoesModel" "thrown" "I" : Cond) ∈ tb := List.mem_filter.mpr ⟨List.mem_of_getElem? (i := 429) (by decide +kernel), by decide +kernel⟩
theorem mw430 : (.fieldLink "RoomEchoesModel" 7 "RoomEchoesModel" "sizes" "[I" : Cond) ∈ tb := List.mem_filter.mpr ⟨List.mem_of_getElem? (i := 430) (by decide +kernel), by decide +kernel⟩
theorem mw431 : (.fieldLink "RoomEchoesModel" 13 "RoomEchoesModel" "source" "[I" : Cond) ∈ tb := List.mem_filter.mpr ⟨List.mem_of_getElem? (i := 431) (by decide +kernel), by decide +kernel⟩
theorem mw432 : (.fieldLink "RoomEchoesModel" 16 "RoomEchoesModel" "listener" "[I" : Cond) ∈ tb := List.mem_filter.mpr ⟨List.mem_of_getElem? (i := 432) (by decide +kernel), by decide +kernel⟩
theorem mw433 : (.fieldLink "RoomEchoesModel" 19 "RoomEchoesModel" "keeps" "[I" : Cond) ∈ tb := List.mem_filter.mpr ⟨List.mem_of_getElem? (i := 433) (by decide +kernel), by decide +kernel⟩
theorem mw434 : (.fieldLink "RoomEchoesModel" 53 "RoomEchoesModel" "known" "Z" : Cond) ∈ tb := List.mem_filter.mpr ⟨List.mem_of_getElem? (i := 434) (by decide +kernel), by decide +kernel⟩
theorem mw435 : (.fieldLink "RoomEchoesModel" 22 "RoomEchoesModel" "squares" "[J" : Cond) ∈ tb := List.mem_filter.mpr ⟨List.mem_of_getElem? (i := 435) (by decide +kernel), by decide +kernel⟩
theorem mw436 : (.fieldLink "RoomEchoesModel" 26 "RoomEchoesModel" "sorted" "[J" : Cond) ∈ tb := List.mem_filter.mpr ⟨List.mem_of_getElem? (i := 436) (by decide +kernel), by decide +kernel⟩
theorem mw437 : (.fieldLink "RoomEchoesModel" 29 "RoomEchoesModel" "distances" "[J" : Cond) ∈ tb := List.mem_filter.mpr ⟨List.mem_of_getElem? (i := 437) (by decide +kernel), by decide +kernel⟩
theorem mw438 : (.fieldLink "RoomEchoesModel" 32 "RoomEchoesModel" "as" "[I" : Cond) ∈ tb := List.mem_filter.mpr ⟨List.mem_of_getElem? (i := 438) (by decide +kernel), by decide +kernel⟩
theorem mw439 : (.fieldLink "RoomEchoesModel" 35 "RoomEchoesModel" "bs" "[I" : Cond) ∈ tb := List.mem_filter.mpr ⟨List.mem_of_getElem? (i := 439) (by decide +kernel), by decide +kernel⟩
theorem mw440 : (.fieldLink "RoomEchoesModel" 38 "RoomEchoesModel" "cs" "[I" : Cond) ∈ tb := List.mem_filter.mpr ⟨List.mem_of_getElem? (i := 440) (by decide +kernel), by decide +kernel⟩
theorem mw466 : (.methodLink "RoomEchoesLaw" 67 ⟨"RoomEchoesModel", "thrown", "()I"⟩ : Cond) ∈ tb := List.mem_filter.mpr ⟨List.mem_of_getElem? (i := 466) (by decide +kernel), by decide +kernel⟩
theorem mw467 : (.instanceMethod ⟨"RoomEchoesModel", "thrown", "()I"⟩ : Cond) ∈ tb := List.mem_filter.mpr ⟨List.mem_of_getElem? (i := 467) (by decide +kernel), by decide +kernel⟩
theorem mw468 : (.selects "RoomEchoesModel" ⟨"RoomEchoesModel", "thrown", "()I"⟩ ⟨"RoomEchoesModel", "thrown", "()I"⟩ : Cond) ∈ tb := List.mem_filter.mpr ⟨List.mem_of_getElem? (i := 468) (by decide +kernel), by decide +kernel⟩
theorem mw469 : (.code ⟨"RoomEchoesModel", "thrown", "()I"⟩ prog_5_method_2_code 1 (some .int) : Cond) ∈ tb := List.mem_filter.mpr ⟨List.mem_of_getElem? (i := 469) (by decide +kernel), by decide +kernel⟩
theorem mw470 : (.methodLink "RoomEchoesLaw" 66 ⟨"RoomEchoesModel", "source", "(III)V"⟩ : Cond) ∈ tb := List.mem_filter.mpr ⟨List.mem_of_getElem? (i := 470) (by decide +kernel), by decide +kernel⟩
theorem mw471 : (.instanceMethod ⟨"RoomEchoesModel", "source", "(III)V"⟩ : Cond) ∈ tb := List.mem_filter.mpr ⟨List.mem_of_getElem? (i := 471) (by decide +kernel), by decide +kernel⟩
theorem mw472 : (.selects "RoomEchoesModel" ⟨"RoomEchoesModel", "source", "(III)V"⟩ ⟨"RoomEchoesModel", "source", "(III)V"⟩ : Cond) ∈ tb := List.mem_filter.mpr ⟨List.mem_of_getElem? (i := 472) (by decide +kernel), by decide +kernel⟩
theorem mw473 : (.code ⟨"RoomEchoesModel", "source", "(III)V"⟩ prog_5_method_5_code 4 none : Cond) ∈ tb := List.mem_filter.mpr ⟨List.mem_of_getElem? (i := 473) (by decide +kernel), by decide +kernel⟩
theorem mw474 : (.methodLink "RoomEchoesModel" 49 ⟨"RoomEchoesModel", "isPoint", "(III)Z"⟩ : Cond) ∈ tb := List.mem_filter.mpr ⟨List.mem_of_getElem? (i := 474) (by decide +kernel), by decide +kernel⟩
theorem mw476 : (.instanceMethod ⟨"RoomEchoesModel", "isPoint", "(III)Z"⟩ : Cond) ∈ tb := List.mem_filter.mpr ⟨List.mem_of_getElem? (i := 476) (by decide +kernel), by decide +kernel⟩
theorem mw477 : (.code ⟨"RoomEchoesModel", "isPoint", "(III)Z"⟩ prog_5_method_4_code 4 (some .boolean) : Cond) ∈ tb := List.mem_filter.mpr ⟨List.mem_of_getElem? (i := 477) (by decide +kernel), by decide +kernel⟩
theorem mw478 : (.methodLink "RoomEchoesModel" 45 ⟨"RoomEchoesModel", "in", "(JJJ)Z"⟩ : Cond) ∈ tb := List.mem_filter.mpr ⟨List.mem_of_getElem? (i := 478) (by decide +kernel), by decide +kernel⟩
theorem mw479 : (.static ⟨"RoomEchoesModel", "in", "(JJJ)Z"⟩ : Cond) ∈ tb := List.mem_filter.mpr ⟨List.mem_of_getElem? (i := 479) (by decide +kernel), by decide +kernel⟩
theorem mw480 : (.code ⟨"RoomEchoesModel", "in", "(JJJ)Z"⟩ prog_5_method_3_code 6 (some .boolean) : Cond) ∈ tb := List.mem_filter.mpr ⟨List.mem_of_getElem? (i := 480) (by decide +kernel), by decide +kernel⟩
theorem mw481 : (.methodLink "RoomEchoesLaw" 73 ⟨"RoomEchoesModel", "listener", "(III)V"⟩ : Cond) ∈ tb := List.mem_filter.mpr ⟨List.mem_of_getElem? (i := 481) (by decide +kernel), by decide +kernel⟩
theorem mw482 : (.instanceMethod ⟨"RoomEchoesModel", "listener", "(III)V"⟩ : Cond) ∈ tb := List.mem_filter.mpr ⟨List.mem_of_getElem? (i := 482) (by decide +kernel), by decide +kernel⟩
theorem mw483 : (.selects "RoomEchoesModel" ⟨"RoomEchoesModel", "listener", "(III)V"⟩ ⟨"RoomEchoesModel", "listener", "(III)V"⟩ : Cond) ∈ tb := List.mem_filter.mpr ⟨List.mem_of_getElem? (i := 483) (by decide +kernel), by decide +kernel⟩
theorem mw484 : (.code ⟨"RoomEchoesModel", "listener", "(III)V"⟩ prog_5_method_6_code 4 none : Cond) ∈ tb := List.mem_filter.mpr ⟨List.mem_of_getElem? (i := 484) (by decide +kernel), by decide +kernel⟩
theorem mw485 : (.methodLink "RoomEchoesLaw" 77 ⟨"RoomEchoesModel", "keeps", "(II)I"⟩ : Cond) ∈ tb := List.mem_filter.mpr ⟨List.mem_of_getElem? (i := 485) (by decide +kernel), by decide +kernel⟩
theorem mw486 : (.instanceMethod ⟨"RoomEchoesModel", "keeps", "(II)I"⟩ : Cond) ∈ tb := List.mem_filter.mpr ⟨List.mem_of_getElem? (i := 486) (by decide +kernel), by decide +kernel⟩
theorem mw487 : (.selects "RoomEchoesModel" ⟨"RoomEchoesModel", "keeps", "(II)I"⟩ ⟨"RoomEchoesModel", "keeps", "(II)I"⟩ : Cond) ∈ tb := List.mem_filter.mpr ⟨List.mem_of_getElem? (i := 487) (by decide +kernel), by decide +kernel⟩
theorem mw488 : (.code ⟨"RoomEchoesModel", "keeps", "(II)I"⟩ prog_5_method_7_code 4 (some .int) : Cond) ∈ tb := List.mem_filter.mpr ⟨List.mem_of_getElem? (i := 488) (by decide +kernel), by decide +kernel⟩
theorem mw489 : (.constantLong "RoomEchoesModel" 57 5 : Cond) ∈ tb := List.mem_filter.mpr ⟨List.mem_of_getElem? (i := 489) (by decide +kernel), by decide +kernel⟩
theorem mw490 : (.constantLong "RoomEchoesModel" 59 1000 : Cond) ∈ tb := List.mem_filter.mpr ⟨List.mem_of_getElem? (i := 490) (by decide +kernel), by decide +kernel⟩
theorem mw491 : (.methodLink "RoomEchoesLaw" 81 ⟨"RoomEchoesModel", "image", "(IIII)J"⟩ : Cond) ∈ tb := List.mem_filter.mpr ⟨List.mem_of_getElem? (i := 491) (by decide +kernel), by decide +kernel⟩
theorem mw492 : (.instanceMethod ⟨"RoomEchoesModel", "image", "(IIII)J"⟩ : Cond) ∈ tb := List.mem_filter.mpr ⟨List.mem_of_getElem? (i := 492) (by decide +kernel), by decide +kernel⟩
theorem mw493 : (.selects "RoomEchoesModel" ⟨"RoomEchoesModel", "image", "(IIII)J"⟩ ⟨"RoomEchoesModel", "image", "(IIII)J"⟩ : Cond) ∈ tb := List.mem_filter.mpr ⟨List.mem_of_getElem? (i := 493) (by decide +kernel), by decide +kernel⟩
theorem mw494 : (.code ⟨"RoomEchoesModel", "image", "(IIII)J"⟩ prog_5_method_17_code 5 (some .long) : Cond) ∈ tb := List.mem_filter.mpr ⟨List.mem_of_getElem? (i := 494) (by decide +kernel), by decide +kernel⟩
theorem mw495 : (.methodLink "RoomEchoesModel" 92 ⟨"RoomEchoesModel", "isImage", "(III)Z"⟩ : Cond) ∈ tb := List.mem_filter.mpr ⟨List.mem_of_getElem? (i := 495) (by decide +kernel), by decide +kernel⟩
theorem mw496 : (.static ⟨"RoomEchoesModel", "isImage", "(III)Z"⟩ : Cond) ∈ tb := List.mem_filter.mpr ⟨List.mem_of_getElem? (i := 496) (by decide +kernel), by decide +kernel⟩
theorem mw497 : (.code ⟨"RoomEchoesModel", "isImage", "(III)Z"⟩ prog_5_method_16_code 3 (some .boolean) : Cond) ∈ tb := List.mem_filter.mpr ⟨List.mem_of_getElem? (i := 497) (by decide +kernel), by decide +kernel⟩
theorem mw498 : (.constantLong "RoomEchoesModel" 88 (-40) : Cond) ∈ tb := List.mem_filter.mpr ⟨List.mem_of_getElem? (i := 498) (by decide +kernel), by decide +kernel⟩
theorem mw499 : (.constantLong "RoomEchoesModel" 90 40 : Cond) ∈ tb := List.mem_filter.mpr ⟨List.mem_of_getElem? (i := 499) (by decide +kernel), by decide +kernel⟩
theorem mw500 : (.constantLong "RoomEchoesModel" 95 3 : Cond) ∈ tb := List.mem_filter.mpr ⟨List.mem_of_getElem? (i := 500) (by decide +kernel), by decide +kernel⟩
theorem mw501 : (.methodLink "RoomEchoesModel" 97 ⟨"RoomEchoesModel", "told", "(IIII)J"⟩ : Cond) ∈ tb := List.mem_filter.mpr ⟨List.mem_of_getElem? (i := 501) (by decide +kernel), by decide +kernel⟩
theorem mw503 : (.instanceMethod ⟨"RoomEchoesModel", "told", "(IIII)J"⟩ : Cond) ∈ tb := List.mem_filter.mpr ⟨List.mem_of_getElem? (i := 503) (by decide +kernel), by decide +kernel⟩
theorem mw504 : (.code ⟨"RoomEchoesModel", "told", "(IIII)J"⟩ prog_5_method_15_code 5 (some .long) : Cond) ∈ tb := List.mem_filter.mpr ⟨List.mem_of_getElem? (i := 504) (by decide +kernel), by decide +kernel⟩
theorem mw505 : (.methodLink "RoomEchoesModel" 78 ⟨"RoomEchoesModel", "distance", "(III)J"⟩ : Cond) ∈ tb := List.mem_filter.mpr ⟨List.mem_of_getElem? (i := 505) (by decide +kernel), by decide +kernel⟩
theorem mw507 : (.instanceMethod ⟨"RoomEchoesModel", "distance", "(III)J"⟩ : Cond) ∈ tb := List.mem_filter.mpr ⟨List.mem_of_getElem? (i := 507) (by decide +kernel), by decide +kernel⟩
theorem mw508 : (.code ⟨"RoomEchoesModel", "distance", "(III)J"⟩ prog_5_method_11_code 4 (some .long) : Cond) ∈ tb := List.mem_filter.mpr ⟨List.mem_of_getElem? (i := 508) (by decide +kernel), by decide +kernel⟩
theorem mw509 : (.methodLink "RoomEchoesModel" 61 ⟨"RoomEchoesModel", "square", "(II)J"⟩ : Cond) ∈ tb := List.mem_filter.mpr ⟨List.mem_of_getElem? (i := 509) (by decide +kernel), by decide +kernel⟩
theorem mw511 : (.instanceMethod ⟨"RoomEchoesModel", "square", "(II)J"⟩ : Cond) ∈ tb := List.mem_filter.mpr ⟨List.mem_of_getElem? (i := 511) (by decide +kernel), by decide +kernel⟩
theorem mw512 : (.code ⟨"RoomEchoesModel", "square", "(II)J"⟩ prog_5_method_8_code 7 (some .long) : Cond) ∈ tb := List.mem_filter.mpr ⟨List.mem_of_getElem? (i := 512) (by decide +kernel), by decide +kernel⟩
theorem mw513 : (.methodLink "RoomEchoesModel" 82 ⟨"RoomEchoesModel", "strength", "(III)J"⟩ : Cond) ∈ tb := List.mem_filter.mpr ⟨List.mem_of_getElem? (i := 513) (by decide +kernel), by decide +kernel⟩
theorem mw515 : (.instanceMethod ⟨"RoomEchoesModel", "strength", "(III)J"⟩ : Cond) ∈ tb := List.mem_filter.mpr ⟨List.mem_of_getElem? (i := 515) (by decide +kernel), by decide +kernel⟩
theorem mw516 : (.code ⟨"RoomEchoesModel", "strength", "(III)J"⟩ prog_5_method_13_code 6 (some .long) : Cond) ∈ tb := List.mem_filter.mpr ⟨List.mem_of_getElem? (i := 516) (by decide +kernel), by decide +kernel⟩
theorem mw517 : (.constantLong "RoomEchoesModel" 65 1000000000 : Cond) ∈ tb := List.mem_filter.mpr ⟨List.mem_of_getElem? (i := 517) (by decide +kernel), by decide +kernel⟩
theorem mw518 : (.methodLink "RoomEchoesModel" 67 ⟨"RoomEchoesModel", "hitsLow", "(I)I"⟩ : Cond) ∈ tb := List.mem_filter.mpr ⟨List.mem_of_getElem? (i := 518) (by decide +kernel), by decide +kernel⟩
theorem mw519 : (.static ⟨"RoomEchoesModel", "hitsLow", "(I)I"⟩ : Cond) ∈ tb := List.mem_filter.mpr ⟨List.mem_of_getElem? (i := 519) (by decide +kernel), by decide +kernel⟩
theorem mw520 : (.code ⟨"RoomEchoesModel", "hitsLow", "(I)I"⟩ prog_5_method_10_code 1 (some .int) : Cond) ∈ tb := List.mem_filter.mpr ⟨List.mem_of_getElem? (i := 520) (by decide +kernel), by decide +kernel⟩
theorem mw521 : (.methodLink "RoomEchoesModel" 71 ⟨"RoomEchoesModel", "kept", "(JII)J"⟩ : Cond) ∈ tb := List.mem_filter.mpr ⟨List.mem_of_getElem? (i := 521) (by decide +kernel), by decide +kernel⟩
theorem mw523 : (.instanceMethod ⟨"RoomEchoesModel", "kept", "(JII)J"⟩ : Cond) ∈ tb := List.mem_filter.mpr ⟨List.mem_of_getElem? (i := 523) (by decide +kernel), by decide +kernel⟩
theorem mw524 : (.code ⟨"RoomEchoesModel", "kept", "(JII)J"⟩ prog_5_method_12_code 8 (some .long) : Cond) ∈ tb := List.mem_filter.mpr ⟨List.mem_of_getElem? (i := 524) (by decide +kernel), by decide +kernel⟩
theorem mw525 : (.methodLink "RoomEchoesModel" 75 ⟨"RoomEchoesModel", "hitsHigh", "(I)I"⟩ : Cond) ∈ tb := List.mem_filter.mpr ⟨List.mem_of_getElem? (i := 525) (by decide +kernel), by decide +kernel⟩
theorem mw526 : (.static ⟨"RoomEchoesModel", "hitsHigh", "(I)I"⟩ : Cond) ∈ tb := List.mem_filter.mpr ⟨List.mem_of_getElem? (i := 526) (by decide +kernel), by decide +kernel⟩
theorem mw527 : (.code ⟨"RoomEchoesModel", "hitsHigh", "(I)I"⟩ prog_5_method_9_code 1 (some .int) : Cond) ∈ tb := List.mem_filter.mpr ⟨List.mem_of_getElem? (i := 527) (by decide +kernel), by decide +kernel⟩
theorem mw528 : (.methodLink "RoomEchoesModel" 85 ⟨"RoomEchoesModel", "hits", "(I)I"⟩ : Cond) ∈ tb := List.mem_filter.mpr ⟨List.mem_of_getElem? (i := 528) (by decide +kernel), by decide +kernel⟩
theorem mw529 : (.static ⟨"RoomEchoesModel", "hits", "(I)I"⟩ : Cond) ∈ tb := List.mem_filter.mpr ⟨List.mem_of_getElem? (i := 529) (by decide +kernel), by decide +kernel⟩
theorem mw530 : (.code ⟨"RoomEchoesModel", "hits", "(I)I"⟩ prog_5_method_14_code 1 (some .int) : Cond) ∈ tb := List.mem_filter.mpr ⟨List.mem_of_getElem? (i := 530) (by decide +kernel), by decide +kernel⟩
theorem mw531 : (.methodLink "RoomEchoesLaw" 84 ⟨"RoomEchoesModel", "echo", "(II)J"⟩ : Cond) ∈ tb := List.mem_filter.mpr ⟨List.mem_of_getElem? (i := 531) (by decide +kernel), by decide +kernel⟩
theorem mw532 : (.instanceMethod ⟨"RoomEchoesModel", "echo", "(II)J"⟩ : Cond) ∈ tb := List.mem_filter.mpr ⟨List.mem_of_getElem? (i := 532) (by decide +kernel), by decide +kernel⟩
theorem mw533 : (.selects "RoomEchoesModel" ⟨"RoomEchoesModel", "echo", "(II)J"⟩ ⟨"RoomEchoesModel", "echo", "(II)J"⟩ : Cond) ∈ tb := List.mem_filter.mpr ⟨List.mem_of_getElem? (i := 533) (by decide +kernel), by decide +kernel⟩
theorem mw534 : (.code ⟨"RoomEchoesModel", "echo", "(II)J"⟩ prog_5_method_23_code 3 (some .long) : Cond) ∈ tb := List.mem_filter.mpr ⟨List.mem_of_getElem? (i := 534) (by decide +kernel), by decide +kernel⟩
theorem mw535 : (.constantLong "RoomEchoesModel" 120 499 : Cond) ∈ tb := List.mem_filter.mpr ⟨List.mem_of_getElem? (i := 535) (by decide +kernel), by decide +kernel⟩
theorem mw536 : (.constantLong "RoomEchoesModel" 122 6 : Cond) ∈ tb := List.mem_filter.mpr ⟨List.mem_of_getElem? (i := 536) (by decide +kernel), by decide +kernel⟩
theorem mw537 : (.methodLink "RoomEchoesModel" 124 ⟨"RoomEchoesModel", "make", "()V"⟩ : Cond) ∈ tb := List.mem_filter.mpr ⟨List.mem_of_getElem? (i := 537) (by decide +kernel), by decide +kernel⟩
theorem mw539 : (.instanceMethod ⟨"RoomEchoesModel", "make", "()V"⟩ : Cond) ∈ tb := List.mem_filter.mpr ⟨List.mem_of_getElem? (i := 539) (by decide +kernel), by decide +kernel⟩
theorem mw540 : (.code ⟨"RoomEchoesModel", "make", "()V"⟩ prog_5_method_20_code 7 none : Cond) ∈ tb := List.mem_filter.mpr ⟨List.mem_of_getElem? (i := 540) (by decide +kernel), by decide +kernel⟩
theorem mw541 : (.methodLink "RoomEchoesModel" 101 ⟨"RoomEchoesModel", "prepare", "()V"⟩ : Cond) ∈ tb := List.mem_filter.mpr ⟨List.mem_of_getElem? (i := 541) (by decide +kernel), by decide +kernel⟩
theorem mw543 : (.instanceMethod ⟨"RoomEchoesModel", "prepare", "()V"⟩ : Cond) ∈ tb := List.mem_filter.mpr ⟨List.mem_of_getElem? (i := 543) (by decide +kernel), by decide +kernel⟩
theorem mw544 : (.code ⟨"RoomEchoesModel", "prepare", "()V"⟩ prog_5_method_18_code 6 none : Cond) ∈ tb := List.mem_filter.mpr ⟨List.mem_of_getElem? (i := 544) (by decide +kernel), by decide +kernel⟩
theorem mw545 : (.constantLong "RoomEchoesModel" 104 8000000000 : Cond) ∈ tb := List.mem_filter.mpr ⟨List.mem_of_getElem? (i := 545) (by decide +kernel), by decide +kernel⟩
theorem mw546 : (.constantLong "RoomEchoesModel" 106 2 : Cond) ∈ tb := List.mem_filter.mpr ⟨List.mem_of_getElem? (i := 546) (by decide +kernel), by decide +kernel⟩
theorem mw547 : (.methodLink "RoomEchoesModel" 108 ⟨"RoomEchoesModel", "isEnough", "(J)Z"⟩ : Cond) ∈ tb := List.mem_filter.mpr ⟨List.mem_of_getElem? (i := 547) (by decide +kernel), by decide +kernel⟩
theorem mw549 : (.instanceMethod ⟨"RoomEchoesModel", "isEnough", "(J)Z"⟩ : Cond) ∈ tb := List.mem_filter.mpr ⟨List.mem_of_getElem? (i := 549) (by decide +kernel), by decide +kernel⟩
theorem mw550 : (.code ⟨"RoomEchoesModel", "isEnough", "(J)Z"⟩ prog_5_method_19_code 9 (some .boolean) : Cond) ∈ tb := List.mem_filter.mpr ⟨List.mem_of_getElem? (i := 550) (by decide +kernel), by decide +kernel⟩
theorem mw551 : (.methodLink "RoomEchoesModel" 112 ⟨"RoomEchoesModel", "collect", "(IJJ)I"⟩ : Cond) ∈ tb := List.mem_filter.mpr ⟨List.mem_of_getElem? (i := 551) (by decide +kernel), by decide +kernel⟩
theorem mw553 : (.instanceMethod ⟨"RoomEchoesModel", "collect", "(IJJ)I"⟩ : Cond) ∈ tb := List.mem_filter.mpr ⟨List.mem_of_getElem? (i := 553) (by decide +kernel), by decide +kernel⟩
theorem mw554 : (.code ⟨"RoomEchoesModel", "collect", "(IJJ)I"⟩ prog_5_method_21_code 14 (some .int) : Cond) ∈ tb := List.mem_filter.mpr ⟨List.mem_of_getElem? (i := 554) (by decide +kernel), by decide +kernel⟩
theorem mw555 : (.methodLink "RoomEchoesModel" 116 ⟨"RoomEchoesModel", "put", "(IJIII)V"⟩ : Cond) ∈ tb := List.mem_filter.mpr ⟨List.mem_of_getElem? (i := 555) (by decide +kernel), by decide +kernel⟩
theorem mw557 : (.instanceMethod ⟨"RoomEchoesModel", "put", "(IJIII)V"⟩ : Cond) ∈ tb := List.mem_filter.mpr ⟨List.mem_of_getElem? (i := 557) (by decide +kernel), by decide +kernel⟩
theorem mw558 : (.code ⟨"RoomEchoesModel", "put", "(IJIII)V"⟩ prog_5_method_22_code 8 none : Cond) ∈ tb := List.mem_filter.mpr ⟨List.mem_of_getElem? (i := 558) (by decide +kernel), by decide +kernel⟩
theorem mw559 : (.methodLink "RoomEchoesLaw" 88 ⟨"RoomEchoesModel", "place", "(III)I"⟩ : Cond) ∈ tb := List.mem_filter.mpr ⟨List.mem_of_getElem? (i := 559) (by decide +kernel), by decide +kernel⟩
theorem mw560 : (.instanceMethod ⟨"RoomEchoesModel", "place", "(III)I"⟩ : Cond) ∈ tb := List.mem_filter.mpr ⟨List.mem_of_getElem? (i := 560) (by decide +kernel), by decide +kernel⟩
theorem mw561 : (.selects "RoomEchoesModel" ⟨"RoomEchoesModel", "place", "(III)I"⟩ ⟨"RoomEchoesModel", "place", "(III)I"⟩ : Cond) ∈ tb := List.mem_filter.mpr ⟨List.mem_of_getElem? (i := 561) (by decide +kernel), by decide +kernel⟩
theorem mw562 : (.code ⟨"RoomEchoesModel", "place", "(III)I"⟩ prog_5_method_24_code 6 (some .int) : Cond) ∈ tb := List.mem_filter.mpr ⟨List.mem_of_getElem? (i := 562) (by decide +kernel), by decide +kernel⟩
theorem mw563 : (.methodLink "RoomEchoesLaw" 94 ⟨"RoomEchoesModel", "until", "(J)I"⟩ : Cond) ∈ tb := List.mem_filter.mpr ⟨List.mem_of_getElem? (i := 563) (by decide +kernel), by decide +kernel⟩
theorem mw564 : (.instanceMethod ⟨"RoomEchoesModel", "until", "(J)I"⟩ : Cond) ∈ tb := List.mem_filter.mpr ⟨List.mem_of_getElem? (i := 564) (by decide +kernel), by decide +kernel⟩
theorem mw565 : (.selects "RoomEchoesModel" ⟨"RoomEchoesModel", "until", "(J)I"⟩ ⟨"RoomEchoesModel", "until", "(J)I"⟩ : Cond) ∈ tb := List.mem_filter.mpr ⟨List.mem_of_getElem? (i := 565) (by decide +kernel), by decide +kernel⟩
theorem mw566 : (.code ⟨"RoomEchoesModel", "until", "(J)I"⟩ prog_5_method_26_code 3 (some .int) : Cond) ∈ tb := List.mem_filter.mpr ⟨List.mem_of_getElem? (i := 566) (by decide +kernel), by decide +kernel⟩
theorem mw567 : (.methodLink "RoomEchoesModel" 127 ⟨"RoomEchoesModel", "countUntil", "(J)I"⟩ : Cond) ∈ tb := List.mem_filter.mpr ⟨List.mem_of_getElem? (i := 567) (by decide +kernel), by decide +kernel⟩
theorem mw569 : (.instanceMethod ⟨"RoomEchoesModel", "countUntil", "(J)I"⟩ : Cond) ∈ tb := List.mem_filter.mpr ⟨List.mem_of_getElem? (i := 569) (by decide +kernel), by decide +kernel⟩
theorem mw570 : (.code ⟨"RoomEchoesModel", "countUntil", "(J)I"⟩ prog_5_method_25_code 4 (some .int) : Cond) ∈ tb := List.mem_filter.mpr ⟨List.mem_of_getElem? (i := 570) (by decide +kernel), by decide +kernel⟩
theorem mw571 : (.methodLink "RoomEchoesLaw" 97 ⟨"RoomEchoesModel", "loud", "(II)J"⟩ : Cond) ∈ tb := List.mem_filter.mpr ⟨List.mem_of_getElem? (i := 571) (by decide +kernel), by decide +kernel⟩
theorem mw572 : (.instanceMethod ⟨"RoomEchoesModel", "loud", "(II)J"⟩ : Cond) ∈ tb := List.mem_filter.mpr ⟨List.mem_of_getElem? (i := 572) (by decide +kernel), by decide +kernel⟩
theorem mw573 : (.selects "RoomEchoesModel" ⟨"RoomEchoesModel", "loud", "(II)J"⟩ ⟨"RoomEchoesModel", "loud", "(II)J"⟩ : Cond) ∈ tb := List.mem_filter.mpr ⟨List.mem_of_getElem? (i := 573) (by decide +kernel), by decide +kernel⟩
theorem mw574 : (.code ⟨"RoomEchoesModel", "loud", "(II)J"⟩ prog_5_method_29_code 3 (some .long) : Cond) ∈ tb := List.mem_filter.mpr ⟨List.mem_of_getElem? (i := 574) (by decide +kernel), by decide +kernel⟩
theorem mw575 : (.methodLink "RoomEchoesModel" 135 ⟨"RoomEchoesModel", "first", "(I)J"⟩ : Cond) ∈ tb := List.mem_filter.mpr ⟨List.mem_of_getElem? (i := 575) (by decide +kernel), by decide +kernel⟩
theorem mw577 : (.instanceMethod ⟨"RoomEchoesModel", "first", "(I)J"⟩ : Cond) ∈ tb := List.mem_filter.mpr ⟨List.mem_of_getElem? (i := 577) (by decide +kernel), by decide +kernel⟩
theorem mw578 : (.code ⟨"RoomEchoesModel", "first", "(I)J"⟩ prog_5_method_28_code 5 (some .long) : Cond) ∈ tb := List.mem_filter.mpr ⟨List.mem_of_getElem? (i := 578) (by decide +kernel), by decide +kernel⟩
theorem mw579 : (.methodLink "RoomEchoesModel" 131 ⟨"RoomEchoesModel", "loudness", "(I)J"⟩ : Cond) ∈ tb := List.mem_filter.mpr ⟨List.mem_of_getElem? (i := 579) (by decide +kernel), by decide +kernel⟩
theorem mw581 : (.instanceMethod ⟨"RoomEchoesModel", "loudness", "(I)J"⟩ : Cond) ∈ tb := List.mem_filter.mpr ⟨List.mem_of_getElem? (i := 581) (by decide +kernel), by decide +kernel⟩
theorem mw582 : (.code ⟨"RoomEchoesModel", "loudness", "(I)J"⟩ prog_5_method_27_code 2 (some .long) : Cond) ∈ tb := List.mem_filter.mpr ⟨List.mem_of_getElem? (i := 582) (by decide +kernel), by decide +kernel⟩
theorem mw583 : (.methodLink "RoomEchoesLaw" 101 ⟨"RoomEchoesModel", "early", "(JI)J"⟩ : Cond) ∈ tb := List.mem_filter.mpr ⟨List.mem_of_getElem? (i := 583) (by decide +kernel), by decide +kernel⟩
theorem mw584 : (.instanceMethod ⟨"RoomEchoesModel", "early", "(JI)J"⟩ : Cond) ∈ tb := List.mem_filter.mpr ⟨List.mem_of_getElem? (i := 584) (by decide +kernel), by decide +kernel⟩
theorem mw585 : (.selects "RoomEchoesModel" ⟨"RoomEchoesModel", "early", "(JI)J"⟩ ⟨"RoomEchoesModel", "early", "(JI)J"⟩ : Cond) ∈ tb := List.mem_filter.mpr ⟨List.mem_of_getElem? (i := 585) (by decide +kernel), by decide +kernel⟩
theorem mw586 : (.code ⟨"RoomEchoesModel", "early", "(JI)J"⟩ prog_5_method_31_code 10 (some .long) : Cond) ∈ tb := List.mem_filter.mpr ⟨List.mem_of_getElem? (i := 586) (by decide +kernel), by decide +kernel⟩
theorem mw587 : (.methodLink "RoomEchoesModel" 138 ⟨"RoomEchoesModel", "common", "(JJ)J"⟩ : Cond) ∈ tb := List.mem_filter.mpr ⟨List.mem_of_getElem? (i := 587) (by decide +kernel), by decide +kernel⟩
theorem mw588 : (.static ⟨"RoomEchoesModel", "common", "(JJ)J"⟩ : Cond) ∈ tb := List.mem_filter.mpr ⟨List.mem_of_getElem? (i := 588) (by decide +kernel), by decide +kernel⟩
theorem mw589 : (.code ⟨"RoomEchoesModel", "common", "(JJ)J"⟩ prog_5_method_30_code 10 (some .long) : Cond) ∈ tb := List.mem_filter.mpr ⟨List.mem_of_getElem? (i := 589) (by decide +kernel), by decide +kernel⟩
theorem mw590 : (.methodLink "RoomEchoesLaw" 105 ⟨"RoomEchoesModel", "enough", "(I)I"⟩ : Cond) ∈ tb := List.mem_filter.mpr ⟨List.mem_of_getElem? (i := 590) (by decide +kernel), by decide +kernel⟩
theorem mw591 : (.instanceMethod ⟨"RoomEchoesModel", "enough", "(I)I"⟩ : Cond) ∈ tb := List.mem_filter.mpr ⟨List.mem_of_getElem? (i := 591) (by decide +kernel), by decide +kernel⟩
theorem mw592 : (.selects "RoomEchoesModel" ⟨"RoomEchoesModel", "enough", "(I)I"⟩ ⟨"RoomEchoesModel", "enough", "(I)I"⟩ : Cond) ∈ tb := List.mem_filter.mpr ⟨List.mem_of_getElem? (i := 592) (by decide +kernel), by decide +kernel⟩
theorem mw593 : (.code ⟨"RoomEchoesModel", "enough", "(I)I"⟩ prog_5_method_32_code 7 (some .int) : Cond) ∈ tb := List.mem_filter.mpr ⟨List.mem_of_getElem? (i := 593) (by decide +kernel), by decide +kernel⟩
theorem mw594 : (.methodLink "RoomEchoesLaw" 108 ⟨"RoomEchoesModel", "loudest", "(I)I"⟩ : Cond) ∈ tb := List.mem_filter.mpr ⟨List.mem_of_getElem? (i := 594) (by decide +kernel), by decide +kernel⟩
theorem mw595 : (.instanceMethod ⟨"RoomEchoesModel", "loudest", "(I)I"⟩ : Cond) ∈ tb := List.mem_filter.mpr ⟨List.mem_of_getElem? (i := 595) (by decide +kernel), by decide +kernel⟩
theorem mw596 : (.selects "RoomEchoesModel" ⟨"RoomEchoesModel", "loudest", "(I)I"⟩ ⟨"RoomEchoesModel", "loudest", "(I)I"⟩ : Cond) ∈ tb := List.mem_filter.mpr ⟨List.mem_of_getElem? (i := 596) (by decide +kernel), by decide +kernel⟩
theorem mw597 : (.code ⟨"RoomEchoesModel", "loudest", "(I)I"⟩ prog_5_method_33_code 4 (some .int) : Cond) ∈ tb := List.mem_filter.mpr ⟨List.mem_of_getElem? (i := 597) (by decide +kernel), by decide +kernel⟩
theorem mw598 : (.constantLong "RoomEchoesModel" 142 (-1) : Cond) ∈ tb := List.mem_filter.mpr ⟨List.mem_of_getElem? (i := 598) (by decide +kernel), by decide +kernel⟩
theorem mw599 : (.constantLong "RoomEchoesLaw" 89 4294967295 : Cond) ∈ tb := List.mem_filter.mpr ⟨List.mem_of_getElem? (i := 599) (by decide +kernel), by decide +kernel⟩
