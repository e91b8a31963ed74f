theorem wI_L : Cond.initialized RL ∈ lw_tbl := List.mem_of_getElem? (i := 68) (by decide +kernel)
theorem wI_X4 : Cond.initialized RX4 ∈ lw_tbl := List.mem_of_getElem? (i := 69) (by decide +kernel)
theorem wI_X3 : Cond.initialized RX3 ∈ lw_tbl := List.mem_of_getElem? (i := 70) (by decide +kernel)
theorem wI_X2 : Cond.initialized RX2 ∈ lw_tbl := List.mem_of_getElem? (i := 71) (by decide +kernel)
theorem wI_X1 : Cond.initialized RX1 ∈ lw_tbl := List.mem_of_getElem? (i := 72) (by decide +kernel)
theorem wI_X5 : Cond.initialized RX5 ∈ lw_tbl := List.mem_of_getElem? (i := 73) (by decide +kernel)
theorem wI_X0 : Cond.initialized RX0 ∈ lw_tbl := List.mem_of_getElem? (i := 74) (by decide +kernel)
theorem wI_J9 : Cond.initialized RJ9 ∈ lw_tbl := List.mem_of_getElem? (i := 75) (by decide +kernel)
theorem wI_J10 : Cond.initialized RJ10 ∈ lw_tbl := List.mem_of_getElem? (i := 76) (by decide +kernel)
theorem wI_J0 : Cond.initialized RJ0 ∈ lw_tbl := List.mem_of_getElem? (i := 77) (by decide +kernel)
theorem wI_J1 : Cond.initialized RJ1 ∈ lw_tbl := List.mem_of_getElem? (i := 78) (by decide +kernel)
theorem wI_J2 : Cond.initialized RJ2 ∈ lw_tbl := List.mem_of_getElem? (i := 80) (by decide +kernel)
theorem cvX0_isUnder : rb_cS yX0_isUnder cX0_isUnder 4 (some .boolean) 2 := ⟨List.mem_of_getElem? (i := 321) (by decide +kernel), wI_X0, List.mem_of_getElem? (i := 322) (by decide +kernel), by decide +kernel, by decide⟩
theorem cvX0_eats : rb_cS yX0_eats cX0_eats 6 (some .int) 3 := ⟨List.mem_of_getElem? (i := 257) (by decide +kernel), wI_X0, List.mem_of_getElem? (i := 258) (by decide +kernel), by decide +kernel, by decide⟩
theorem cvX0_needs : rb_cS yX0_needs cX0_needs 5 (some .int) 2 := ⟨List.mem_of_getElem? (i := 296) (by decide +kernel), wI_X0, List.mem_of_getElem? (i := 297) (by decide +kernel), by decide +kernel, by decide⟩
theorem cvX0_grows : rb_cS yX0_grows cX0_grows 4 (some .int) 3 := ⟨List.mem_of_getElem? (i := 303) (by decide +kernel), wI_X0, List.mem_of_getElem? (i := 304) (by decide +kernel), by decide +kernel, by decide⟩
theorem cvX0_nameOf : rb_cS yX0_nameOf cX0_nameOf 1 (some (.object "java/lang/String")) 1 := ⟨List.mem_of_getElem? (i := 608) (by decide +kernel), wI_X0, List.mem_of_getElem? (i := 609) (by decide +kernel), by decide +kernel, by decide⟩
theorem cvX1_isMissing : rb_cV yX1_isMissing cX1_isMissing 1 (some .boolean) 0 := ⟨List.mem_of_getElem? (i := 649) (by decide +kernel), List.mem_of_getElem? (i := 650) (by decide +kernel), wI_X1, List.mem_of_getElem? (i := 651) (by decide +kernel), by decide +kernel, by decide⟩
theorem cvX1_begin : rb_cV yX1_begin cX1_begin 4 none 2 := ⟨List.mem_of_getElem? (i := 641) (by decide +kernel), List.mem_of_getElem? (i := 642) (by decide +kernel), wI_X1, List.mem_of_getElem? (i := 643) (by decide +kernel), by decide +kernel, by decide⟩
theorem cvX1_put : rb_cV yX1_put cX1_put 4 none 2 := ⟨List.mem_of_getElem? (i := 654) (by decide +kernel), List.mem_of_getElem? (i := 655) (by decide +kernel), wI_X1, List.mem_of_getElem? (i := 656) (by decide +kernel), by decide +kernel, by decide⟩
theorem cvX1_hasRange : rb_cV yX1_hasRange cX1_hasRange 3 (some .boolean) 2 := ⟨List.mem_of_getElem? (i := 662) (by decide +kernel), List.mem_of_getElem? (i := 663) (by decide +kernel), wI_X1, List.mem_of_getElem? (i := 664) (by decide +kernel), by decide +kernel, by decide⟩
theorem cvX2_addByte : rb_cV yX2_addByte cX2_addByte 2 none 1 := ⟨List.mem_of_getElem? (i := 502) (by decide +kernel), List.mem_of_getElem? (i := 503) (by decide +kernel), wI_X2, List.mem_of_getElem? (i := 504) (by decide +kernel), by decide +kernel, by decide⟩
theorem cvX2_tellTo : rb_cV yX2_tellTo cX2_tellTo 3 (some .int) 1 := ⟨List.mem_of_getElem? (i := 514) (by decide +kernel), List.mem_of_getElem? (i := 515) (by decide +kernel), wI_X2, List.mem_of_getElem? (i := 516) (by decide +kernel), by decide +kernel, by decide⟩
theorem cvX2_tellItem : rb_cV yX2_tellItem cX2_tellItem 3 (some .boolean) 1 := ⟨List.mem_of_getElem? (i := 527) (by decide +kernel), List.mem_of_getElem? (i := 7) (by decide +kernel), wI_X2, List.mem_of_getElem? (i := 528) (by decide +kernel), by decide +kernel, by decide⟩
theorem cvX2_tellHouse : rb_cV yX2_tellHouse cX2_tellHouse 3 (some .boolean) 1 := ⟨List.mem_of_getElem? (i := 584) (by decide +kernel), List.mem_of_getElem? (i := 9) (by decide +kernel), wI_X2, List.mem_of_getElem? (i := 585) (by decide +kernel), by decide +kernel, by decide⟩
theorem cvX2_tellTrue : rb_cV yX2_tellTrue cX2_tellTrue 3 (some .boolean) 1 := ⟨List.mem_of_getElem? (i := 604) (by decide +kernel), List.mem_of_getElem? (i := 13) (by decide +kernel), wI_X2, List.mem_of_getElem? (i := 605) (by decide +kernel), by decide +kernel, by decide⟩
theorem cvX2_tellRumour : rb_cV yX2_tellRumour cX2_tellRumour 5 (some .boolean) 2 := ⟨List.mem_of_getElem? (i := 618) (by decide +kernel), List.mem_of_getElem? (i := 14) (by decide +kernel), wI_X2, List.mem_of_getElem? (i := 619) (by decide +kernel), by decide +kernel, by decide⟩
theorem cvX2_tellPart : rb_cV yX2_tellPart cX2_tellPart 5 (some .boolean) 4 := ⟨List.mem_of_getElem? (i := 597) (by decide +kernel), List.mem_of_getElem? (i := 12) (by decide +kernel), wI_X2, List.mem_of_getElem? (i := 598) (by decide +kernel), by decide +kernel, by decide⟩
theorem cvX2_tellLodging : rb_cV yX2_tellLodging cX2_tellLodging 3 (some .boolean) 2 := ⟨List.mem_of_getElem? (i := 626) (by decide +kernel), List.mem_of_getElem? (i := 15) (by decide +kernel), wI_X2, List.mem_of_getElem? (i := 627) (by decide +kernel), by decide +kernel, by decide⟩
theorem cvX2_passNumber : rb_cV yX2_passNumber cX2_passNumber 3 (some .int) 1 := ⟨List.mem_of_getElem? (i := 588) (by decide +kernel), List.mem_of_getElem? (i := 10) (by decide +kernel), wI_X2, List.mem_of_getElem? (i := 589) (by decide +kernel), by decide +kernel, by decide⟩
theorem cvX2_isNumber : rb_cV yX2_isNumber cX2_isNumber 2 (some .boolean) 1 := ⟨List.mem_of_getElem? (i := 592) (by decide +kernel), List.mem_of_getElem? (i := 11) (by decide +kernel), wI_X2, List.mem_of_getElem? (i := 593) (by decide +kernel), by decide +kernel, by decide⟩
theorem cvX2_isWord : rb_cV yX2_isWord cX2_isWord 3 (some .boolean) 1 := ⟨List.mem_of_getElem? (i := 532) (by decide +kernel), List.mem_of_getElem? (i := 8) (by decide +kernel), wI_X2, List.mem_of_getElem? (i := 533) (by decide +kernel), by decide +kernel, by decide⟩
theorem cvX2_nextToken : rb_cV yX2_nextToken cX2_nextToken 2 none 0 := ⟨List.mem_of_getElem? (i := 519) (by decide +kernel), List.mem_of_getElem? (i := 6) (by decide +kernel), wI_X2, List.mem_of_getElem? (i := 520) (by decide +kernel), by decide +kernel, by decide⟩
theorem cvX2_sortOf : rb_cS yX2_sortOf cX2_sortOf 1 (some .int) 1 := ⟨List.mem_of_getElem? (i := 522) (by decide +kernel), wI_X2, List.mem_of_getElem? (i := 523) (by decide +kernel), by decide +kernel, by decide⟩
theorem cvX3_becomes : rb_cV yX3_becomes cX3_becomes 2 none 1 := ⟨List.mem_of_getElem? (i := 439) (by decide +kernel), List.mem_of_getElem? (i := 440) (by decide +kernel), wI_X3, List.mem_of_getElem? (i := 441) (by decide +kernel), by decide +kernel, by decide⟩
theorem cvX3_isFull : rb_cV yX3_isFull cX3_isFull 1 (some .boolean) 0 := ⟨List.mem_of_getElem? (i := 273) (by decide +kernel), List.mem_of_getElem? (i := 274) (by decide +kernel), wI_X3, List.mem_of_getElem? (i := 275) (by decide +kernel), by decide +kernel, by decide⟩
theorem cvX3_addOne : rb_cV yX3_addOne cX3_addOne 5 (some .int) 3 := ⟨List.mem_of_getElem? (i := 278) (by decide +kernel), List.mem_of_getElem? (i := 279) (by decide +kernel), wI_X3, List.mem_of_getElem? (i := 280) (by decide +kernel), by decide +kernel, by decide⟩
theorem cvX3_eatsOf : rb_cV yX3_eatsOf cX3_eatsOf 2 (some .int) 1 := ⟨List.mem_of_getElem? (i := 253) (by decide +kernel), List.mem_of_getElem? (i := 254) (by decide +kernel), wI_X3, List.mem_of_getElem? (i := 255) (by decide +kernel), by decide +kernel, by decide⟩
theorem cvX3_needsOf : rb_cV yX3_needsOf cX3_needsOf 2 (some .int) 1 := ⟨List.mem_of_getElem? (i := 292) (by decide +kernel), List.mem_of_getElem? (i := 293) (by decide +kernel), wI_X3, List.mem_of_getElem? (i := 294) (by decide +kernel), by decide +kernel, by decide⟩
theorem cvX3_growsOf : rb_cV yX3_growsOf cX3_growsOf 2 (some .int) 1 := ⟨List.mem_of_getElem? (i := 299) (by decide +kernel), List.mem_of_getElem? (i := 300) (by decide +kernel), wI_X3, List.mem_of_getElem? (i := 301) (by decide +kernel), by decide +kernel, by decide⟩
theorem cvX3_isTrue : rb_cV yX3_isTrue cX3_isTrue 2 (some .boolean) 1 := ⟨List.mem_of_getElem? (i := 343) (by decide +kernel), List.mem_of_getElem? (i := 344) (by decide +kernel), wI_X3, List.mem_of_getElem? (i := 345) (by decide +kernel), by decide +kernel, by decide⟩
theorem cvX3_hasBedFree : rb_cV yX3_hasBedFree cX3_hasBedFree 2 (some .boolean) 1 := ⟨List.mem_of_getElem? (i := 335) (by decide +kernel), List.mem_of_getElem? (i := 336) (by decide +kernel), wI_X3, List.mem_of_getElem? (i := 337) (by decide +kernel), by decide +kernel, by decide⟩
theorem cvX3_wouldTake : rb_cV yX3_wouldTake cX3_wouldTake 3 (some .boolean) 2 := ⟨List.mem_of_getElem? (i := 331) (by decide +kernel), List.mem_of_getElem? (i := 332) (by decide +kernel), wI_X3, List.mem_of_getElem? (i := 333) (by decide +kernel), by decide +kernel, by decide⟩
theorem cvX3_hostFor : rb_cV yX3_hostFor cX3_hostFor 5 (some .int) 1 := ⟨List.mem_of_getElem? (i := 348) (by decide +kernel), List.mem_of_getElem? (i := 349) (by decide +kernel), wI_X3, List.mem_of_getElem? (i := 350) (by decide +kernel), by decide +kernel, by decide⟩
theorem cvX3_lodge : rb_cV yX3_lodge cX3_lodge 4 none 2 := ⟨List.mem_of_getElem? (i := 355) (by decide +kernel), List.mem_of_getElem? (i := 356) (by decide +kernel), wI_X3, List.mem_of_getElem? (i := 357) (by decide +kernel), by decide +kernel, by decide⟩
theorem cvX3_improveBy : rb_cV yX3_improveBy cX3_improveBy 7 none 2 := ⟨List.mem_of_getElem? (i := 363) (by decide +kernel), List.mem_of_getElem? (i := 364) (by decide +kernel), wI_X3, List.mem_of_getElem? (i := 365) (by decide +kernel), by decide +kernel, by decide⟩
theorem cvX3_becomeTrue : rb_cV yX3_becomeTrue cX3_becomeTrue 4 (some .int) 1 := ⟨List.mem_of_getElem? (i := 375) (by decide +kernel), List.mem_of_getElem? (i := 376) (by decide +kernel), wI_X3, List.mem_of_getElem? (i := 377) (by decide +kernel), by decide +kernel, by decide⟩
theorem cvX3_passDays : rb_cV yX3_passDays cX3_passDays 3 none 1 := ⟨List.mem_of_getElem? (i := 387) (by decide +kernel), List.mem_of_getElem? (i := 388) (by decide +kernel), wI_X3, List.mem_of_getElem? (i := 389) (by decide +kernel), by decide +kernel, by decide⟩
theorem cvX3_passDay : rb_cV yX3_passDay cX3_passDay 2 none 0 := ⟨List.mem_of_getElem? (i := 391) (by decide +kernel), List.mem_of_getElem? (i := 392) (by decide +kernel), wI_X3, List.mem_of_getElem? (i := 393) (by decide +kernel), by decide +kernel, by decide⟩
theorem cvX3_feedOne : rb_cV yX3_feedOne cX3_feedOne 4 none 1 := ⟨List.mem_of_getElem? (i := 396) (by decide +kernel), List.mem_of_getElem? (i := 2) (by decide +kernel), wI_X3, List.mem_of_getElem? (i := 397) (by decide +kernel), by decide +kernel, by decide⟩
theorem cvX3_makeThird : rb_cV yX3_makeThird cX3_makeThird 6 none 1 := ⟨List.mem_of_getElem? (i := 401) (by decide +kernel), List.mem_of_getElem? (i := 3) (by decide +kernel), wI_X3, List.mem_of_getElem? (i := 402) (by decide +kernel), by decide +kernel, by decide⟩
theorem cvX3_pairedEvent : rb_cV yX3_pairedEvent cX3_pairedEvent 6 (some .int) 1 := ⟨List.mem_of_getElem? (i := 405) (by decide +kernel), List.mem_of_getElem? (i := 4) (by decide +kernel), wI_X3, List.mem_of_getElem? (i := 406) (by decide +kernel), by decide +kernel, by decide⟩
theorem cvX3_isOnRoad : rb_cV yX3_isOnRoad cX3_isOnRoad 3 (some .boolean) 1 := ⟨List.mem_of_getElem? (i := 409) (by decide +kernel), List.mem_of_getElem? (i := 5) (by decide +kernel), wI_X3, List.mem_of_getElem? (i := 410) (by decide +kernel), by decide +kernel, by decide⟩
theorem cvX3_thoseIn : rb_cV yX3_thoseIn cX3_thoseIn 4 (some .int) 1 := ⟨List.mem_of_getElem? (i := 241) (by decide +kernel), List.mem_of_getElem? (i := 242) (by decide +kernel), wI_X3, List.mem_of_getElem? (i := 243) (by decide +kernel), by decide +kernel, by decide⟩
theorem cvX3_eventsIn : rb_cV yX3_eventsIn cX3_eventsIn 4 (some .int) 1 := ⟨List.mem_of_getElem? (i := 245) (by decide +kernel), List.mem_of_getElem? (i := 246) (by decide +kernel), wI_X3, List.mem_of_getElem? (i := 247) (by decide +kernel), by decide +kernel, by decide⟩
theorem cvX3_eatenIn : rb_cV yX3_eatenIn cX3_eatenIn 4 (some .int) 1 := ⟨List.mem_of_getElem? (i := 249) (by decide +kernel), List.mem_of_getElem? (i := 250) (by decide +kernel), wI_X3, List.mem_of_getElem? (i := 251) (by decide +kernel), by decide +kernel, by decide⟩
theorem cvX3_eatenInAll : rb_cV yX3_eatenInAll cX3_eatenInAll 3 (some .int) 0 := ⟨List.mem_of_getElem? (i := 430) (by decide +kernel), List.mem_of_getElem? (i := 431) (by decide +kernel), wI_X3, List.mem_of_getElem? (i := 432) (by decide +kernel), by decide +kernel, by decide⟩
theorem cvX3_bulkOfAll : rb_cV yX3_bulkOfAll cX3_bulkOfAll 3 (some .int) 0 := ⟨List.mem_of_getElem? (i := 418) (by decide +kernel), List.mem_of_getElem? (i := 419) (by decide +kernel), wI_X3, List.mem_of_getElem? (i := 420) (by decide +kernel), by decide +kernel, by decide⟩
theorem cvX3_freeBeds : rb_cV yX3_freeBeds cX3_freeBeds 3 (some .int) 0 := ⟨List.mem_of_getElem? (i := 425) (by decide +kernel), List.mem_of_getElem? (i := 426) (by decide +kernel), wI_X3, List.mem_of_getElem? (i := 427) (by decide +kernel), by decide +kernel, by decide⟩
theorem cvX4_house : rb_cV yX4_house cX4_house 6 (some .int) 3 := ⟨List.mem_of_getElem? (i := 219) (by decide +kernel), List.mem_of_getElem? (i := 220) (by decide +kernel), wI_X4, List.mem_of_getElem? (i := 221) (by decide +kernel), by decide +kernel, by decide⟩
theorem cvX4_houseOf : rb_cV yX4_houseOf cX4_houseOf 3 (some .int) 2 := ⟨List.mem_of_getElem? (i := 237) (by decide +kernel), List.mem_of_getElem? (i := 238) (by decide +kernel), wI_X4, List.mem_of_getElem? (i := 239) (by decide +kernel), by decide +kernel, by decide⟩
theorem cvX4_rumour : rb_cV yX4_rumour cX4_rumour 3 (some .int) 2 := ⟨List.mem_of_getElem? (i := 263) (by decide +kernel), List.mem_of_getElem? (i := 264) (by decide +kernel), wI_X4, List.mem_of_getElem? (i := 265) (by decide +kernel), by decide +kernel, by decide⟩
theorem cvX4_of : rb_cV yX4_of cX4_of 3 (some .int) 2 := ⟨List.mem_of_getElem? (i := 283) (by decide +kernel), List.mem_of_getElem? (i := 284) (by decide +kernel), wI_X4, List.mem_of_getElem? (i := 285) (by decide +kernel), by decide +kernel, by decide⟩
theorem cvX4_set : rb_cV yX4_set cX4_set 6 (some .int) 3 := ⟨List.mem_of_getElem? (i := 306) (by decide +kernel), List.mem_of_getElem? (i := 307) (by decide +kernel), wI_X4, List.mem_of_getElem? (i := 308) (by decide +kernel), by decide +kernel, by decide⟩
theorem cvX4_turn : rb_cV yX4_turn cX4_turn 4 (some .int) 2 := ⟨List.mem_of_getElem? (i := 313) (by decide +kernel), List.mem_of_getElem? (i := 314) (by decide +kernel), wI_X4, List.mem_of_getElem? (i := 315) (by decide +kernel), by decide +kernel, by decide⟩
theorem cvX4_as : rb_cV yX4_as cX4_as 3 (some .int) 2 := ⟨List.mem_of_getElem? (i := 317) (by decide +kernel), List.mem_of_getElem? (i := 318) (by decide +kernel), wI_X4, List.mem_of_getElem? (i := 319) (by decide +kernel), by decide +kernel, by decide⟩
theorem cvX4_takes : rb_cV yX4_takes cX4_takes 3 (some .int) 2 := ⟨List.mem_of_getElem? (i := 327) (by decide +kernel), List.mem_of_getElem? (i := 328) (by decide +kernel), wI_X4, List.mem_of_getElem? (i := 329) (by decide +kernel), by decide +kernel, by decide⟩
theorem cvX4_comeIn : rb_cV yX4_comeIn cX4_comeIn 3 (some .int) 1 := ⟨List.mem_of_getElem? (i := 339) (by decide +kernel), List.mem_of_getElem? (i := 340) (by decide +kernel), wI_X4, List.mem_of_getElem? (i := 341) (by decide +kernel), by decide +kernel, by decide⟩
theorem cvX4_improve : rb_cV yX4_improve cX4_improve 3 (some .int) 2 := ⟨List.mem_of_getElem? (i := 359) (by decide +kernel), List.mem_of_getElem? (i := 360) (by decide +kernel), wI_X4, List.mem_of_getElem? (i := 361) (by decide +kernel), by decide +kernel, by decide⟩
theorem cvX4_comesTrue : rb_cV yX4_comesTrue cX4_comesTrue 2 (some .int) 1 := ⟨List.mem_of_getElem? (i := 371) (by decide +kernel), List.mem_of_getElem? (i := 372) (by decide +kernel), wI_X4, List.mem_of_getElem? (i := 373) (by decide +kernel), by decide +kernel, by decide⟩
theorem cvX4_forget : rb_cV yX4_forget cX4_forget 3 (some .int) 1 := ⟨List.mem_of_getElem? (i := 379) (by decide +kernel), List.mem_of_getElem? (i := 380) (by decide +kernel), wI_X4, List.mem_of_getElem? (i := 381) (by decide +kernel), by decide +kernel, by decide⟩
theorem cvX4_days : rb_cV yX4_days cX4_days 2 (some .int) 1 := ⟨List.mem_of_getElem? (i := 383) (by decide +kernel), List.mem_of_getElem? (i := 384) (by decide +kernel), wI_X4, List.mem_of_getElem? (i := 385) (by decide +kernel), by decide +kernel, by decide⟩
theorem cvX4_now : rb_cV yX4_now cX4_now 2 (some .int) 1 := ⟨List.mem_of_getElem? (i := 414) (by decide +kernel), List.mem_of_getElem? (i := 415) (by decide +kernel), wI_X4, List.mem_of_getElem? (i := 416) (by decide +kernel), by decide +kernel, by decide⟩
theorem cvX4_on : rb_cV yX4_on cX4_on 4 (some .int) 3 := ⟨List.mem_of_getElem? (i := 435) (by decide +kernel), List.mem_of_getElem? (i := 436) (by decide +kernel), wI_X4, List.mem_of_getElem? (i := 437) (by decide +kernel), by decide +kernel, by decide⟩
theorem cvX4_larder : rb_cV yX4_larder cX4_larder 3 (some .int) 2 := ⟨List.mem_of_getElem? (i := 446) (by decide +kernel), List.mem_of_getElem? (i := 447) (by decide +kernel), wI_X4, List.mem_of_getElem? (i := 448) (by decide +kernel), by decide +kernel, by decide⟩
theorem cvX4_empty : rb_cV yX4_empty cX4_empty 3 (some .int) 1 := ⟨List.mem_of_getElem? (i := 450) (by decide +kernel), List.mem_of_getElem? (i := 451) (by decide +kernel), wI_X4, List.mem_of_getElem? (i := 452) (by decide +kernel), by decide +kernel, by decide⟩
theorem cvX4_many : rb_cV yX4_many cX4_many 2 (some .int) 1 := ⟨List.mem_of_getElem? (i := 456) (by decide +kernel), List.mem_of_getElem? (i := 457) (by decide +kernel), wI_X4, List.mem_of_getElem? (i := 458) (by decide +kernel), by decide +kernel, by decide⟩
theorem cvX4_out : rb_cV yX4_out cX4_out 3 (some .int) 1 := ⟨List.mem_of_getElem? (i := 460) (by decide +kernel), List.mem_of_getElem? (i := 461) (by decide +kernel), wI_X4, List.mem_of_getElem? (i := 462) (by decide +kernel), by decide +kernel, by decide⟩
theorem cvX4_fewest : rb_cV yX4_fewest cX4_fewest 4 (some .int) 2 := ⟨List.mem_of_getElem? (i := 464) (by decide +kernel), List.mem_of_getElem? (i := 465) (by decide +kernel), wI_X4, List.mem_of_getElem? (i := 466) (by decide +kernel), by decide +kernel, by decide⟩
theorem cvX4_least : rb_cV yX4_least cX4_least 3 (some .int) 1 := ⟨List.mem_of_getElem? (i := 468) (by decide +kernel), List.mem_of_getElem? (i := 469) (by decide +kernel), wI_X4, List.mem_of_getElem? (i := 470) (by decide +kernel), by decide +kernel, by decide⟩
theorem cvX4_best : rb_cV yX4_best cX4_best 6 (some .int) 1 := ⟨List.mem_of_getElem? (i := 472) (by decide +kernel), List.mem_of_getElem? (i := 473) (by decide +kernel), wI_X4, List.mem_of_getElem? (i := 474) (by decide +kernel), by decide +kernel, by decide⟩
theorem cvX4_lean : rb_cV yX4_lean cX4_lean 3 (some .int) 2 := ⟨List.mem_of_getElem? (i := 476) (by decide +kernel), List.mem_of_getElem? (i := 477) (by decide +kernel), wI_X4, List.mem_of_getElem? (i := 478) (by decide +kernel), by decide +kernel, by decide⟩
theorem cvX4_leanFor : rb_cV yX4_leanFor cX4_leanFor 6 (some .int) 2 := ⟨List.mem_of_getElem? (i := 481) (by decide +kernel), List.mem_of_getElem? (i := 482) (by decide +kernel), wI_X4, List.mem_of_getElem? (i := 483) (by decide +kernel), by decide +kernel, by decide⟩
theorem cvX4_kind : rb_cV yX4_kind cX4_kind 6 (some .int) 1 := ⟨List.mem_of_getElem? (i := 485) (by decide +kernel), List.mem_of_getElem? (i := 486) (by decide +kernel), wI_X4, List.mem_of_getElem? (i := 487) (by decide +kernel), by decide +kernel, by decide⟩
theorem cvX4_host : rb_cV yX4_host cX4_host 3 (some .int) 1 := ⟨List.mem_of_getElem? (i := 490) (by decide +kernel), List.mem_of_getElem? (i := 491) (by decide +kernel), wI_X4, List.mem_of_getElem? (i := 492) (by decide +kernel), by decide +kernel, by decide⟩
theorem cvX4_beds : rb_cV yX4_beds cX4_beds 4 (some .int) 2 := ⟨List.mem_of_getElem? (i := 494) (by decide +kernel), List.mem_of_getElem? (i := 495) (by decide +kernel), wI_X4, List.mem_of_getElem? (i := 496) (by decide +kernel), by decide +kernel, by decide⟩
theorem cvX4_feed : rb_cV yX4_feed cX4_feed 4 (some .int) 2 := ⟨List.mem_of_getElem? (i := 498) (by decide +kernel), List.mem_of_getElem? (i := 499) (by decide +kernel), wI_X4, List.mem_of_getElem? (i := 500) (by decide +kernel), by decide +kernel, by decide⟩
theorem cvX4_wipe : rb_cV yX4_wipe cX4_wipe 2 (some .int) 0 := ⟨List.mem_of_getElem? (i := 506) (by decide +kernel), List.mem_of_getElem? (i := 507) (by decide +kernel), wI_X4, List.mem_of_getElem? (i := 508) (by decide +kernel), by decide +kernel, by decide⟩
theorem cvX4_town : rb_cV yX4_town cX4_town 2 (some .int) 0 := ⟨List.mem_of_getElem? (i := 510) (by decide +kernel), List.mem_of_getElem? (i := 511) (by decide +kernel), wI_X4, List.mem_of_getElem? (i := 512) (by decide +kernel), by decide +kernel, by decide⟩
theorem cvX4_sheet : rb_cV yX4_sheet cX4_sheet 4 (some .int) 3 := ⟨List.mem_of_getElem? (i := 633) (by decide +kernel), List.mem_of_getElem? (i := 634) (by decide +kernel), wI_X4, List.mem_of_getElem? (i := 635) (by decide +kernel), by decide +kernel, by decide⟩
theorem cvX4_write : rb_cV yX4_write cX4_write 8 (some .long) 3 := ⟨List.mem_of_getElem? (i := 645) (by decide +kernel), List.mem_of_getElem? (i := 646) (by decide +kernel), wI_X4, List.mem_of_getElem? (i := 647) (by decide +kernel), by decide +kernel, by decide⟩
theorem cvX4_copy : rb_cV yX4_copy cX4_copy 8 (some .int) 5 := ⟨List.mem_of_getElem? (i := 658) (by decide +kernel), List.mem_of_getElem? (i := 659) (by decide +kernel), wI_X4, List.mem_of_getElem? (i := 660) (by decide +kernel), by decide +kernel, by decide⟩
theorem cvX4_lays : rb_cV yX4_lays cX4_lays 7 (some .int) 1 := ⟨List.mem_of_getElem? (i := 667) (by decide +kernel), List.mem_of_getElem? (i := 668) (by decide +kernel), wI_X4, List.mem_of_getElem? (i := 669) (by decide +kernel), by decide +kernel, by decide⟩
theorem cvX4_book : rb_cV yX4_book cX4_book 6 (some .int) 2 := ⟨List.mem_of_getElem? (i := 672) (by decide +kernel), List.mem_of_getElem? (i := 673) (by decide +kernel), wI_X4, List.mem_of_getElem? (i := 674) (by decide +kernel), by decide +kernel, by decide⟩
theorem cvX4_read : rb_cV yX4_read cX4_read 7 (some .int) 2 := ⟨List.mem_of_getElem? (i := 680) (by decide +kernel), List.mem_of_getElem? (i := 681) (by decide +kernel), wI_X4, List.mem_of_getElem? (i := 682) (by decide +kernel), by decide +kernel, by decide⟩
theorem cvX4_image : rb_cV yX4_image cX4_image 1 (some .int) 0 := ⟨List.mem_of_getElem? (i := 688) (by decide +kernel), List.mem_of_getElem? (i := 689) (by decide +kernel), wI_X4, List.mem_of_getElem? (i := 690) (by decide +kernel), by decide +kernel, by decide⟩
theorem cvX4_undo : rb_cV yX4_undo cX4_undo 1 (some .int) 0 := ⟨List.mem_of_getElem? (i := 692) (by decide +kernel), List.mem_of_getElem? (i := 693) (by decide +kernel), wI_X4, List.mem_of_getElem? (i := 694) (by decide +kernel), by decide +kernel, by decide⟩
theorem cvX4_tear : rb_cV yX4_tear cX4_tear 2 (some .int) 0 := ⟨List.mem_of_getElem? (i := 696) (by decide +kernel), List.mem_of_getElem? (i := 697) (by decide +kernel), wI_X4, List.mem_of_getElem? (i := 698) (by decide +kernel), by decide +kernel, by decide⟩
theorem cvX4_count : rb_cV yX4_count cX4_count 2 (some .int) 1 := ⟨List.mem_of_getElem? (i := 700) (by decide +kernel), List.mem_of_getElem? (i := 701) (by decide +kernel), wI_X4, List.mem_of_getElem? (i := 702) (by decide +kernel), by decide +kernel, by decide⟩
theorem cvX4_status : rb_cV yX4_status cX4_status 2 (some .int) 1 := ⟨List.mem_of_getElem? (i := 704) (by decide +kernel), List.mem_of_getElem? (i := 705) (by decide +kernel), wI_X4, List.mem_of_getElem? (i := 706) (by decide +kernel), by decide +kernel, by decide⟩
theorem cvX4_finding : rb_cV yX4_finding cX4_finding 3 (some .int) 1 := ⟨List.mem_of_getElem? (i := 234) (by decide +kernel), List.mem_of_getElem? (i := 0) (by decide +kernel), wI_X4, List.mem_of_getElem? (i := 235) (by decide +kernel), by decide +kernel, by decide⟩
theorem cvX4_isWithin : rb_cS yX4_isWithin cX4_isWithin 2 (some .boolean) 2 := ⟨List.mem_of_getElem? (i := 229) (by decide +kernel), wI_X4, List.mem_of_getElem? (i := 230) (by decide +kernel), by decide +kernel, by decide⟩
theorem cvX4_isHouse : rb_cS yX4_isHouse cX4_isHouse 1 (some .boolean) 1 := ⟨List.mem_of_getElem? (i := 223) (by decide +kernel), wI_X4, List.mem_of_getElem? (i := 224) (by decide +kernel), by decide +kernel, by decide⟩
theorem cvX4_isKind : rb_cS yX4_isKind cX4_isKind 1 (some .boolean) 1 := ⟨List.mem_of_getElem? (i := 267) (by decide +kernel), wI_X4, List.mem_of_getElem? (i := 268) (by decide +kernel), by decide +kernel, by decide⟩
theorem cvX4_isEvent : rb_cS yX4_isEvent cX4_isEvent 1 (some .boolean) 1 := ⟨List.mem_of_getElem? (i := 270) (by decide +kernel), wI_X4, List.mem_of_getElem? (i := 271) (by decide +kernel), by decide +kernel, by decide⟩
theorem cvX4_isSheet : rb_cS yX4_isSheet cX4_isSheet 1 (some .boolean) 1 := ⟨List.mem_of_getElem? (i := 637) (by decide +kernel), wI_X4, List.mem_of_getElem? (i := 638) (by decide +kernel), by decide +kernel, by decide⟩
theorem cvX4_isRumour : rb_cV yX4_isRumour cX4_isRumour 2 (some .boolean) 1 := ⟨List.mem_of_getElem? (i := 288) (by decide +kernel), List.mem_of_getElem? (i := 1) (by decide +kernel), wI_X4, List.mem_of_getElem? (i := 289) (by decide +kernel), by decide +kernel, by decide⟩
theorem cvX4_mostOfHouse : rb_cS yX4_mostOfHouse cX4_mostOfHouse 1 (some .int) 1 := ⟨List.mem_of_getElem? (i := 226) (by decide +kernel), wI_X4, List.mem_of_getElem? (i := 227) (by decide +kernel), by decide +kernel, by decide⟩
theorem cvX4_mostOfRumour : rb_cS yX4_mostOfRumour cX4_mostOfRumour 1 (some .int) 1 := ⟨List.mem_of_getElem? (i := 310) (by decide +kernel), wI_X4, List.mem_of_getElem? (i := 311) (by decide +kernel), by decide +kernel, by decide⟩
theorem cvX4_sumOf : rb_cS yX4_sumOf cX4_sumOf 3 (some .int) 1 := ⟨List.mem_of_getElem? (i := 422) (by decide +kernel), wI_X4, List.mem_of_getElem? (i := 423) (by decide +kernel), by decide +kernel, by decide⟩
theorem cvX4_findingOfBook : rb_cV yX4_findingOfBook cX4_findingOfBook 3 (some .int) 2 := ⟨List.mem_of_getElem? (i := 677) (by decide +kernel), List.mem_of_getElem? (i := 16) (by decide +kernel), wI_X4, List.mem_of_getElem? (i := 678) (by decide +kernel), by decide +kernel, by decide⟩
theorem cvX4_isBookOf : rb_cV yX4_isBookOf cX4_isBookOf 4 (some .boolean) 2 := ⟨List.mem_of_getElem? (i := 685) (by decide +kernel), List.mem_of_getElem? (i := 17) (by decide +kernel), wI_X4, List.mem_of_getElem? (i := 686) (by decide +kernel), by decide +kernel, by decide⟩
theorem cvX5_in : rb_cS yX5_in cX5_in 6 (some .boolean) 3 := ⟨List.mem_of_getElem? (i := 771) (by decide +kernel), wI_X5, List.mem_of_getElem? (i := 772) (by decide +kernel), by decide +kernel, by decide⟩
theorem cvX5_finds : rb_cV yX5_finds cX5_finds 2 (some .int) 1 := ⟨List.mem_of_getElem? (i := 787) (by decide +kernel), List.mem_of_getElem? (i := 19) (by decide +kernel), wI_X5, List.mem_of_getElem? (i := 788) (by decide +kernel), by decide +kernel, by decide⟩
theorem cvX5_saves : rb_cV yX5_saves cX5_saves 2 none 0 := ⟨List.mem_of_getElem? (i := 1065) (by decide +kernel), List.mem_of_getElem? (i := 51) (by decide +kernel), wI_X5, List.mem_of_getElem? (i := 1066) (by decide +kernel), by decide +kernel, by decide⟩
theorem cvX5_putsBack : rb_cV yX5_putsBack cX5_putsBack 2 none 0 := ⟨List.mem_of_getElem? (i := 1139) (by decide +kernel), List.mem_of_getElem? (i := 63) (by decide +kernel), wI_X5, List.mem_of_getElem? (i := 1140) (by decide +kernel), by decide +kernel, by decide⟩
theorem cvX5_laysAside : rb_cV yX5_laysAside cX5_laysAside 2 none 0 := ⟨List.mem_of_getElem? (i := 984) (by decide +kernel), List.mem_of_getElem? (i := 47) (by decide +kernel), wI_X5, List.mem_of_getElem? (i := 985) (by decide +kernel), by decide +kernel, by decide⟩
theorem cvX5_takesBack : rb_cV yX5_takesBack cX5_takesBack 3 (some .int) 1 := ⟨List.mem_of_getElem? (i := 988) (by decide +kernel), List.mem_of_getElem? (i := 48) (by decide +kernel), wI_X5, List.mem_of_getElem? (i := 989) (by decide +kernel), by decide +kernel, by decide⟩
theorem cvX5_becomes : rb_cV yX5_becomes cX5_becomes 4 (some .int) 2 := ⟨List.mem_of_getElem? (i := 782) (by decide +kernel), List.mem_of_getElem? (i := 18) (by decide +kernel), wI_X5, List.mem_of_getElem? (i := 783) (by decide +kernel), by decide +kernel, by decide⟩
theorem cvX5_isHouse : rb_cS yX5_isHouse cX5_isHouse 1 (some .boolean) 1 := ⟨List.mem_of_getElem? (i := 777) (by decide +kernel), wI_X5, List.mem_of_getElem? (i := 778) (by decide +kernel), by decide +kernel, by decide⟩
theorem cvX5_isRumour : rb_cV yX5_isRumour cX5_isRumour 2 (some .boolean) 1 := ⟨List.mem_of_getElem? (i := 843) (by decide +kernel), List.mem_of_getElem? (i := 27) (by decide +kernel), wI_X5, List.mem_of_getElem? (i := 844) (by decide +kernel), by decide +kernel, by decide⟩
theorem cvX5_isKind : rb_cS yX5_isKind cX5_isKind 1 (some .boolean) 1 := ⟨List.mem_of_getElem? (i := 826) (by decide +kernel), wI_X5, List.mem_of_getElem? (i := 827) (by decide +kernel), by decide +kernel, by decide⟩
theorem cvX5_isEvent : rb_cS yX5_isEvent cX5_isEvent 1 (some .boolean) 1 := ⟨List.mem_of_getElem? (i := 829) (by decide +kernel), wI_X5, List.mem_of_getElem? (i := 830) (by decide +kernel), by decide +kernel, by decide⟩
theorem cvX5_partOf : rb_cS yX5_partOf cX5_partOf 2 (some .int) 2 := ⟨List.mem_of_getElem? (i := 714) (by decide +kernel), wI_X5, List.mem_of_getElem? (i := 715) (by decide +kernel), by decide +kernel, by decide⟩
theorem cvX5_spotOf : rb_cS yX5_spotOf cX5_spotOf 2 (some .int) 2 := ⟨List.mem_of_getElem? (i := 807) (by decide +kernel), wI_X5, List.mem_of_getElem? (i := 808) (by decide +kernel), by decide +kernel, by decide⟩
theorem cvX5_its : rb_cV yX5_its cX5_its 3 (some .int) 2 := ⟨List.mem_of_getElem? (i := 804) (by decide +kernel), List.mem_of_getElem? (i := 22) (by decide +kernel), wI_X5, List.mem_of_getElem? (i := 805) (by decide +kernel), by decide +kernel, by decide⟩
theorem cvX5_has : rb_cV yX5_has cX5_has 3 (some .int) 2 := ⟨List.mem_of_getElem? (i := 796) (by decide +kernel), List.mem_of_getElem? (i := 20) (by decide +kernel), wI_X5, List.mem_of_getElem? (i := 797) (by decide +kernel), by decide +kernel, by decide⟩
theorem cvX5_house : rb_cV yX5_house cX5_house 5 (some .int) 3 := ⟨List.mem_of_getElem? (i := 766) (by decide +kernel), List.mem_of_getElem? (i := 767) (by decide +kernel), wI_X5, List.mem_of_getElem? (i := 768) (by decide +kernel), by decide +kernel, by decide⟩
theorem cvX5_thoseAt : rb_cV yX5_thoseAt cX5_thoseAt 4 (some .int) 1 := ⟨List.mem_of_getElem? (i := 800) (by decide +kernel), List.mem_of_getElem? (i := 21) (by decide +kernel), wI_X5, List.mem_of_getElem? (i := 801) (by decide +kernel), by decide +kernel, by decide⟩
theorem cvX5_ones : rb_cS yX5_ones cX5_ones 3 (some .int) 1 := ⟨List.mem_of_getElem? (i := 883) (by decide +kernel), wI_X5, List.mem_of_getElem? (i := 884) (by decide +kernel), by decide +kernel, by decide⟩
theorem cvX5_eventsAt : rb_cV yX5_eventsAt cX5_eventsAt 4 (some .int) 1 := ⟨List.mem_of_getElem? (i := 811) (by decide +kernel), List.mem_of_getElem? (i := 23) (by decide +kernel), wI_X5, List.mem_of_getElem? (i := 812) (by decide +kernel), by decide +kernel, by decide⟩
theorem cvX5_eatenAt : rb_cV yX5_eatenAt cX5_eatenAt 4 (some .int) 1 := ⟨List.mem_of_getElem? (i := 815) (by decide +kernel), List.mem_of_getElem? (i := 24) (by decide +kernel), wI_X5, List.mem_of_getElem? (i := 816) (by decide +kernel), by decide +kernel, by decide⟩
theorem cvX5_houseOf : rb_cV yX5_houseOf cX5_houseOf 3 (some .int) 2 := ⟨List.mem_of_getElem? (i := 790) (by decide +kernel), List.mem_of_getElem? (i := 791) (by decide +kernel), wI_X5, List.mem_of_getElem? (i := 792) (by decide +kernel), by decide +kernel, by decide⟩
theorem cvX5_adds : rb_cV yX5_adds cX5_adds 4 (some .int) 2 := ⟨List.mem_of_getElem? (i := 835) (by decide +kernel), List.mem_of_getElem? (i := 26) (by decide +kernel), wI_X5, List.mem_of_getElem? (i := 836) (by decide +kernel), by decide +kernel, by decide⟩
theorem cvX5_rumour : rb_cV yX5_rumour cX5_rumour 3 (some .int) 2 := ⟨List.mem_of_getElem? (i := 822) (by decide +kernel), List.mem_of_getElem? (i := 823) (by decide +kernel), wI_X5, List.mem_of_getElem? (i := 824) (by decide +kernel), by decide +kernel, by decide⟩
theorem cvX5_eats : rb_cV yX5_eats cX5_eats 4 (some .int) 1 := ⟨List.mem_of_getElem? (i := 819) (by decide +kernel), List.mem_of_getElem? (i := 25) (by decide +kernel), wI_X5, List.mem_of_getElem? (i := 820) (by decide +kernel), by decide +kernel, by decide⟩
theorem cvX5_needs : rb_cV yX5_needs cX5_needs 3 (some .int) 1 := ⟨List.mem_of_getElem? (i := 847) (by decide +kernel), List.mem_of_getElem? (i := 28) (by decide +kernel), wI_X5, List.mem_of_getElem? (i := 848) (by decide +kernel), by decide +kernel, by decide⟩
theorem cvX5_grows : rb_cV yX5_grows cX5_grows 2 (some .int) 1 := ⟨List.mem_of_getElem? (i := 851) (by decide +kernel), List.mem_of_getElem? (i := 29) (by decide +kernel), wI_X5, List.mem_of_getElem? (i := 852) (by decide +kernel), by decide +kernel, by decide⟩
theorem cvX5_of : rb_cV yX5_of cX5_of 3 (some .int) 2 := ⟨List.mem_of_getElem? (i := 838) (by decide +kernel), List.mem_of_getElem? (i := 839) (by decide +kernel), wI_X5, List.mem_of_getElem? (i := 840) (by decide +kernel), by decide +kernel, by decide⟩
theorem cvX5_set : rb_cV yX5_set cX5_set 5 (some .int) 3 := ⟨List.mem_of_getElem? (i := 854) (by decide +kernel), List.mem_of_getElem? (i := 855) (by decide +kernel), wI_X5, List.mem_of_getElem? (i := 856) (by decide +kernel), by decide +kernel, by decide⟩
theorem cvX5_turn : rb_cV yX5_turn cX5_turn 3 (some .int) 2 := ⟨List.mem_of_getElem? (i := 859) (by decide +kernel), List.mem_of_getElem? (i := 860) (by decide +kernel), wI_X5, List.mem_of_getElem? (i := 861) (by decide +kernel), by decide +kernel, by decide⟩
theorem cvX5_isUnder : rb_cS yX5_isUnder cX5_isUnder 2 (some .boolean) 2 := ⟨List.mem_of_getElem? (i := 867) (by decide +kernel), wI_X5, List.mem_of_getElem? (i := 868) (by decide +kernel), by decide +kernel, by decide⟩
theorem cvX5_as : rb_cV yX5_as cX5_as 3 (some .int) 2 := ⟨List.mem_of_getElem? (i := 863) (by decide +kernel), List.mem_of_getElem? (i := 864) (by decide +kernel), wI_X5, List.mem_of_getElem? (i := 865) (by decide +kernel), by decide +kernel, by decide⟩
theorem cvX5_isFree : rb_cV yX5_isFree cX5_isFree 2 (some .boolean) 1 := ⟨List.mem_of_getElem? (i := 880) (by decide +kernel), List.mem_of_getElem? (i := 31) (by decide +kernel), wI_X5, List.mem_of_getElem? (i := 881) (by decide +kernel), by decide +kernel, by decide⟩
theorem cvX5_isTaken : rb_cV yX5_isTaken cX5_isTaken 3 (some .boolean) 2 := ⟨List.mem_of_getElem? (i := 876) (by decide +kernel), List.mem_of_getElem? (i := 30) (by decide +kernel), wI_X5, List.mem_of_getElem? (i := 877) (by decide +kernel), by decide +kernel, by decide⟩
theorem cvX5_takes : rb_cV yX5_takes cX5_takes 3 (some .int) 2 := ⟨List.mem_of_getElem? (i := 871) (by decide +kernel), List.mem_of_getElem? (i := 872) (by decide +kernel), wI_X5, List.mem_of_getElem? (i := 873) (by decide +kernel), by decide +kernel, by decide⟩
theorem cvX5_isTrue : rb_cV yX5_isTrue cX5_isTrue 2 (some .boolean) 1 := ⟨List.mem_of_getElem? (i := 891) (by decide +kernel), List.mem_of_getElem? (i := 32) (by decide +kernel), wI_X5, List.mem_of_getElem? (i := 892) (by decide +kernel), by decide +kernel, by decide⟩
theorem cvX5_hostOf : rb_cV yX5_hostOf cX5_hostOf 4 (some .int) 1 := ⟨List.mem_of_getElem? (i := 896) (by decide +kernel), List.mem_of_getElem? (i := 33) (by decide +kernel), wI_X5, List.mem_of_getElem? (i := 897) (by decide +kernel), by decide +kernel, by decide⟩
theorem cvX5_comeIn : rb_cV yX5_comeIn cX5_comeIn 2 (some .int) 1 := ⟨List.mem_of_getElem? (i := 886) (by decide +kernel), List.mem_of_getElem? (i := 887) (by decide +kernel), wI_X5, List.mem_of_getElem? (i := 888) (by decide +kernel), by decide +kernel, by decide⟩
theorem cvX5_heldTo : rb_cS yX5_heldTo cX5_heldTo 2 (some .int) 2 := ⟨List.mem_of_getElem? (i := 908) (by decide +kernel), wI_X5, List.mem_of_getElem? (i := 909) (by decide +kernel), by decide +kernel, by decide⟩
theorem cvX5_isImproved : rb_cV yX5_isImproved cX5_isImproved 6 none 2 := ⟨List.mem_of_getElem? (i := 905) (by decide +kernel), List.mem_of_getElem? (i := 34) (by decide +kernel), wI_X5, List.mem_of_getElem? (i := 906) (by decide +kernel), by decide +kernel, by decide⟩
theorem cvX5_improve : rb_cV yX5_improve cX5_improve 3 (some .int) 2 := ⟨List.mem_of_getElem? (i := 899) (by decide +kernel), List.mem_of_getElem? (i := 900) (by decide +kernel), wI_X5, List.mem_of_getElem? (i := 901) (by decide +kernel), by decide +kernel, by decide⟩
theorem cvX5_becomesTrue : rb_cV yX5_becomesTrue cX5_becomesTrue 4 (some .int) 1 := ⟨List.mem_of_getElem? (i := 916) (by decide +kernel), List.mem_of_getElem? (i := 35) (by decide +kernel), wI_X5, List.mem_of_getElem? (i := 917) (by decide +kernel), by decide +kernel, by decide⟩
theorem cvX5_comesTrue : rb_cV yX5_comesTrue cX5_comesTrue 2 (some .int) 1 := ⟨List.mem_of_getElem? (i := 911) (by decide +kernel), List.mem_of_getElem? (i := 912) (by decide +kernel), wI_X5, List.mem_of_getElem? (i := 913) (by decide +kernel), by decide +kernel, by decide⟩
theorem cvX5_forget : rb_cV yX5_forget cX5_forget 3 (some .int) 1 := ⟨List.mem_of_getElem? (i := 919) (by decide +kernel), List.mem_of_getElem? (i := 920) (by decide +kernel), wI_X5, List.mem_of_getElem? (i := 921) (by decide +kernel), by decide +kernel, by decide⟩
theorem cvX5_feeds : rb_cV yX5_feeds cX5_feeds 3 none 1 := ⟨List.mem_of_getElem? (i := 937) (by decide +kernel), List.mem_of_getElem? (i := 38) (by decide +kernel), wI_X5, List.mem_of_getElem? (i := 938) (by decide +kernel), by decide +kernel, by decide⟩
theorem cvX5_isOnRoad : rb_cV yX5_isOnRoad cX5_isOnRoad 4 (some .boolean) 1 := ⟨List.mem_of_getElem? (i := 949) (by decide +kernel), List.mem_of_getElem? (i := 41) (by decide +kernel), wI_X5, List.mem_of_getElem? (i := 950) (by decide +kernel), by decide +kernel, by decide⟩
theorem cvX5_lodgersOf : rb_cV yX5_lodgersOf cX5_lodgersOf 5 (some .int) 2 := ⟨List.mem_of_getElem? (i := 945) (by decide +kernel), List.mem_of_getElem? (i := 40) (by decide +kernel), wI_X5, List.mem_of_getElem? (i := 946) (by decide +kernel), by decide +kernel, by decide⟩
theorem cvX5_makesThird : rb_cV yX5_makesThird cX5_makesThird 7 none 1 := ⟨List.mem_of_getElem? (i := 941) (by decide +kernel), List.mem_of_getElem? (i := 39) (by decide +kernel), wI_X5, List.mem_of_getElem? (i := 942) (by decide +kernel), by decide +kernel, by decide⟩
theorem cvX5_day : rb_cV yX5_day cX5_day 2 none 0 := ⟨List.mem_of_getElem? (i := 933) (by decide +kernel), List.mem_of_getElem? (i := 37) (by decide +kernel), wI_X5, List.mem_of_getElem? (i := 934) (by decide +kernel), by decide +kernel, by decide⟩
theorem cvX5_daysGo : rb_cV yX5_daysGo cX5_daysGo 3 none 1 := ⟨List.mem_of_getElem? (i := 929) (by decide +kernel), List.mem_of_getElem? (i := 36) (by decide +kernel), wI_X5, List.mem_of_getElem? (i := 930) (by decide +kernel), by decide +kernel, by decide⟩
theorem cvX5_days : rb_cV yX5_days cX5_days 2 (some .int) 1 := ⟨List.mem_of_getElem? (i := 923) (by decide +kernel), List.mem_of_getElem? (i := 924) (by decide +kernel), wI_X5, List.mem_of_getElem? (i := 925) (by decide +kernel), by decide +kernel, by decide⟩
theorem cvX5_larders : rb_cV yX5_larders cX5_larders 3 (some .int) 0 := ⟨List.mem_of_getElem? (i := 961) (by decide +kernel), List.mem_of_getElem? (i := 43) (by decide +kernel), wI_X5, List.mem_of_getElem? (i := 962) (by decide +kernel), by decide +kernel, by decide⟩
theorem cvX5_bulks : rb_cV yX5_bulks cX5_bulks 3 (some .int) 0 := ⟨List.mem_of_getElem? (i := 957) (by decide +kernel), List.mem_of_getElem? (i := 42) (by decide +kernel), wI_X5, List.mem_of_getElem? (i := 958) (by decide +kernel), by decide +kernel, by decide⟩
theorem cvX5_freeBeds : rb_cV yX5_freeBeds cX5_freeBeds 3 (some .int) 0 := ⟨List.mem_of_getElem? (i := 965) (by decide +kernel), List.mem_of_getElem? (i := 44) (by decide +kernel), wI_X5, List.mem_of_getElem? (i := 966) (by decide +kernel), by decide +kernel, by decide⟩
theorem cvX5_eaten : rb_cV yX5_eaten cX5_eaten 3 (some .int) 0 := ⟨List.mem_of_getElem? (i := 969) (by decide +kernel), List.mem_of_getElem? (i := 45) (by decide +kernel), wI_X5, List.mem_of_getElem? (i := 970) (by decide +kernel), by decide +kernel, by decide⟩
theorem cvX5_now : rb_cV yX5_now cX5_now 2 (some .int) 1 := ⟨List.mem_of_getElem? (i := 952) (by decide +kernel), List.mem_of_getElem? (i := 953) (by decide +kernel), wI_X5, List.mem_of_getElem? (i := 954) (by decide +kernel), by decide +kernel, by decide⟩
theorem cvX5_isAhead : rb_cS yX5_isAhead cX5_isAhead 1 (some .boolean) 1 := ⟨List.mem_of_getElem? (i := 976) (by decide +kernel), wI_X5, List.mem_of_getElem? (i := 977) (by decide +kernel), by decide +kernel, by decide⟩
theorem cvX5_behind : rb_cV yX5_behind cX5_behind 3 (some .int) 2 := ⟨List.mem_of_getElem? (i := 980) (by decide +kernel), List.mem_of_getElem? (i := 46) (by decide +kernel), wI_X5, List.mem_of_getElem? (i := 981) (by decide +kernel), by decide +kernel, by decide⟩
theorem cvX5_on : rb_cV yX5_on cX5_on 4 (some .int) 3 := ⟨List.mem_of_getElem? (i := 972) (by decide +kernel), List.mem_of_getElem? (i := 973) (by decide +kernel), wI_X5, List.mem_of_getElem? (i := 974) (by decide +kernel), by decide +kernel, by decide⟩
theorem cvX5_larder : rb_cV yX5_larder cX5_larder 3 (some .int) 2 := ⟨List.mem_of_getElem? (i := 991) (by decide +kernel), List.mem_of_getElem? (i := 992) (by decide +kernel), wI_X5, List.mem_of_getElem? (i := 993) (by decide +kernel), by decide +kernel, by decide⟩
theorem cvX5_firstAs : rb_cV yX5_firstAs cX5_firstAs 5 (some .int) 2 := ⟨List.mem_of_getElem? (i := 1000) (by decide +kernel), List.mem_of_getElem? (i := 49) (by decide +kernel), wI_X5, List.mem_of_getElem? (i := 1001) (by decide +kernel), by decide +kernel, by decide⟩
theorem cvX5_empty : rb_cV yX5_empty cX5_empty 2 (some .int) 1 := ⟨List.mem_of_getElem? (i := 995) (by decide +kernel), List.mem_of_getElem? (i := 996) (by decide +kernel), wI_X5, List.mem_of_getElem? (i := 997) (by decide +kernel), by decide +kernel, by decide⟩
theorem cvX5_many : rb_cV yX5_many cX5_many 2 (some .int) 1 := ⟨List.mem_of_getElem? (i := 1004) (by decide +kernel), List.mem_of_getElem? (i := 1005) (by decide +kernel), wI_X5, List.mem_of_getElem? (i := 1006) (by decide +kernel), by decide +kernel, by decide⟩
theorem cvX5_out : rb_cV yX5_out cX5_out 2 (some .int) 1 := ⟨List.mem_of_getElem? (i := 1008) (by decide +kernel), List.mem_of_getElem? (i := 1009) (by decide +kernel), wI_X5, List.mem_of_getElem? (i := 1010) (by decide +kernel), by decide +kernel, by decide⟩
theorem cvX5_wrongLodger : rb_cV yX5_wrongLodger cX5_wrongLodger 2 (some .int) 1 := ⟨List.mem_of_getElem? (i := 1017) (by decide +kernel), List.mem_of_getElem? (i := 50) (by decide +kernel), wI_X5, List.mem_of_getElem? (i := 1018) (by decide +kernel), by decide +kernel, by decide⟩
theorem cvX5_fewest : rb_cV yX5_fewest cX5_fewest 5 (some .int) 2 := ⟨List.mem_of_getElem? (i := 1012) (by decide +kernel), List.mem_of_getElem? (i := 1013) (by decide +kernel), wI_X5, List.mem_of_getElem? (i := 1014) (by decide +kernel), by decide +kernel, by decide⟩
theorem cvX5_least : rb_cV yX5_least cX5_least 5 (some .int) 1 := ⟨List.mem_of_getElem? (i := 1020) (by decide +kernel), List.mem_of_getElem? (i := 1021) (by decide +kernel), wI_X5, List.mem_of_getElem? (i := 1022) (by decide +kernel), by decide +kernel, by decide⟩
theorem cvX5_isSoon : rb_cS yX5_isSoon cX5_isSoon 1 (some .boolean) 1 := ⟨List.mem_of_getElem? (i := 1028) (by decide +kernel), wI_X5, List.mem_of_getElem? (i := 1029) (by decide +kernel), by decide +kernel, by decide⟩
theorem cvX5_best : rb_cV yX5_best cX5_best 7 (some .int) 1 := ⟨List.mem_of_getElem? (i := 1024) (by decide +kernel), List.mem_of_getElem? (i := 1025) (by decide +kernel), wI_X5, List.mem_of_getElem? (i := 1026) (by decide +kernel), by decide +kernel, by decide⟩
theorem cvX5_lean : rb_cV yX5_lean cX5_lean 3 (some .int) 2 := ⟨List.mem_of_getElem? (i := 1031) (by decide +kernel), List.mem_of_getElem? (i := 1032) (by decide +kernel), wI_X5, List.mem_of_getElem? (i := 1033) (by decide +kernel), by decide +kernel, by decide⟩
theorem cvX5_leanFor : rb_cV yX5_leanFor cX5_leanFor 8 (some .int) 2 := ⟨List.mem_of_getElem? (i := 1035) (by decide +kernel), List.mem_of_getElem? (i := 1036) (by decide +kernel), wI_X5, List.mem_of_getElem? (i := 1037) (by decide +kernel), by decide +kernel, by decide⟩
theorem cvX5_kind : rb_cV yX5_kind cX5_kind 7 (some .int) 1 := ⟨List.mem_of_getElem? (i := 1039) (by decide +kernel), List.mem_of_getElem? (i := 1040) (by decide +kernel), wI_X5, List.mem_of_getElem? (i := 1041) (by decide +kernel), by decide +kernel, by decide⟩
theorem cvX5_host : rb_cV yX5_host cX5_host 3 (some .int) 1 := ⟨List.mem_of_getElem? (i := 1043) (by decide +kernel), List.mem_of_getElem? (i := 1044) (by decide +kernel), wI_X5, List.mem_of_getElem? (i := 1045) (by decide +kernel), by decide +kernel, by decide⟩
theorem cvX5_beds : rb_cV yX5_beds cX5_beds 6 (some .int) 2 := ⟨List.mem_of_getElem? (i := 1047) (by decide +kernel), List.mem_of_getElem? (i := 1048) (by decide +kernel), wI_X5, List.mem_of_getElem? (i := 1049) (by decide +kernel), by decide +kernel, by decide⟩
theorem cvX5_feed : rb_cV yX5_feed cX5_feed 4 (some .int) 2 := ⟨List.mem_of_getElem? (i := 1051) (by decide +kernel), List.mem_of_getElem? (i := 1052) (by decide +kernel), wI_X5, List.mem_of_getElem? (i := 1053) (by decide +kernel), by decide +kernel, by decide⟩
theorem cvX5_wipe : rb_cV yX5_wipe cX5_wipe 2 (some .int) 0 := ⟨List.mem_of_getElem? (i := 1056) (by decide +kernel), List.mem_of_getElem? (i := 1057) (by decide +kernel), wI_X5, List.mem_of_getElem? (i := 1058) (by decide +kernel), by decide +kernel, by decide⟩
theorem cvX5_byteAt : rb_cV yX5_byteAt cX5_byteAt 2 (some .int) 1 := ⟨List.mem_of_getElem? (i := 1073) (by decide +kernel), List.mem_of_getElem? (i := 53) (by decide +kernel), wI_X5, List.mem_of_getElem? (i := 1074) (by decide +kernel), by decide +kernel, by decide⟩
theorem cvX5_isLetter : rb_cS yX5_isLetter cX5_isLetter 1 (some .boolean) 1 := ⟨List.mem_of_getElem? (i := 1076) (by decide +kernel), wI_X5, List.mem_of_getElem? (i := 1077) (by decide +kernel), by decide +kernel, by decide⟩
theorem cvX5_isDigit : rb_cS yX5_isDigit cX5_isDigit 1 (some .boolean) 1 := ⟨List.mem_of_getElem? (i := 1081) (by decide +kernel), wI_X5, List.mem_of_getElem? (i := 1082) (by decide +kernel), by decide +kernel, by decide⟩
theorem cvX5_token : rb_cV yX5_token cX5_token 3 none 0 := ⟨List.mem_of_getElem? (i := 1069) (by decide +kernel), List.mem_of_getElem? (i := 52) (by decide +kernel), wI_X5, List.mem_of_getElem? (i := 1070) (by decide +kernel), by decide +kernel, by decide⟩
theorem cvX5_must : rb_cV yX5_must cX5_must 2 none 1 := ⟨List.mem_of_getElem? (i := 1111) (by decide +kernel), List.mem_of_getElem? (i := 58) (by decide +kernel), wI_X5, List.mem_of_getElem? (i := 1112) (by decide +kernel), by decide +kernel, by decide⟩
theorem cvX5_word : rb_cV yX5_word cX5_word 4 (some .long) 0 := ⟨List.mem_of_getElem? (i := 1095) (by decide +kernel), List.mem_of_getElem? (i := 56) (by decide +kernel), wI_X5, List.mem_of_getElem? (i := 1096) (by decide +kernel), by decide +kernel, by decide⟩
theorem cvX5_number : rb_cV yX5_number cX5_number 6 none 2 := ⟨List.mem_of_getElem? (i := 1116) (by decide +kernel), List.mem_of_getElem? (i := 59) (by decide +kernel), wI_X5, List.mem_of_getElem? (i := 1117) (by decide +kernel), by decide +kernel, by decide⟩
theorem cvX5_kindHere : rb_cV yX5_kindHere cX5_kindHere 3 (some .int) 0 := ⟨List.mem_of_getElem? (i := 1091) (by decide +kernel), List.mem_of_getElem? (i := 55) (by decide +kernel), wI_X5, List.mem_of_getElem? (i := 1092) (by decide +kernel), by decide +kernel, by decide⟩
theorem cvX5_partItem : rb_cV yX5_partItem cX5_partItem 5 none 3 := ⟨List.mem_of_getElem? (i := 1121) (by decide +kernel), List.mem_of_getElem? (i := 60) (by decide +kernel), wI_X5, List.mem_of_getElem? (i := 1122) (by decide +kernel), by decide +kernel, by decide⟩
theorem cvX5_peeked : rb_cV yX5_peeked cX5_peeked 3 (some .int) 0 := ⟨List.mem_of_getElem? (i := 1126) (by decide +kernel), List.mem_of_getElem? (i := 61) (by decide +kernel), wI_X5, List.mem_of_getElem? (i := 1127) (by decide +kernel), by decide +kernel, by decide⟩
theorem cvX5_rumourItem : rb_cV yX5_rumourItem cX5_rumourItem 4 none 1 := ⟨List.mem_of_getElem? (i := 1107) (by decide +kernel), List.mem_of_getElem? (i := 57) (by decide +kernel), wI_X5, List.mem_of_getElem? (i := 1108) (by decide +kernel), by decide +kernel, by decide⟩
theorem cvX5_houseItem : rb_cV yX5_houseItem cX5_houseItem 2 none 0 := ⟨List.mem_of_getElem? (i := 1131) (by decide +kernel), List.mem_of_getElem? (i := 62) (by decide +kernel), wI_X5, List.mem_of_getElem? (i := 1132) (by decide +kernel), by decide +kernel, by decide⟩
theorem cvX5_item : rb_cV yX5_item cX5_item 5 none 0 := ⟨List.mem_of_getElem? (i := 1087) (by decide +kernel), List.mem_of_getElem? (i := 54) (by decide +kernel), wI_X5, List.mem_of_getElem? (i := 1088) (by decide +kernel), by decide +kernel, by decide⟩
theorem cvX5_town : rb_cV yX5_town cX5_town 2 (some .int) 0 := ⟨List.mem_of_getElem? (i := 1060) (by decide +kernel), List.mem_of_getElem? (i := 1061) (by decide +kernel), wI_X5, List.mem_of_getElem? (i := 1062) (by decide +kernel), by decide +kernel, by decide⟩
theorem cvX5_isOne : rb_cS yX5_isOne cX5_isOne 1 (some .boolean) 1 := ⟨List.mem_of_getElem? (i := 1146) (by decide +kernel), wI_X5, List.mem_of_getElem? (i := 1147) (by decide +kernel), by decide +kernel, by decide⟩
theorem cvX5_sheet : rb_cV yX5_sheet cX5_sheet 5 (some .int) 3 := ⟨List.mem_of_getElem? (i := 1142) (by decide +kernel), List.mem_of_getElem? (i := 1143) (by decide +kernel), wI_X5, List.mem_of_getElem? (i := 1144) (by decide +kernel), by decide +kernel, by decide⟩
theorem cvX5_narrowed : rb_cS yX5_narrowed cX5_narrowed 3 (some .long) 2 := ⟨List.mem_of_getElem? (i := 1159) (by decide +kernel), wI_X5, List.mem_of_getElem? (i := 1160) (by decide +kernel), by decide +kernel, by decide⟩
theorem cvX5_wrongSheet : rb_cV yX5_wrongSheet cX5_wrongSheet 2 (some .int) 1 := ⟨List.mem_of_getElem? (i := 1155) (by decide +kernel), List.mem_of_getElem? (i := 64) (by decide +kernel), wI_X5, List.mem_of_getElem? (i := 1156) (by decide +kernel), by decide +kernel, by decide⟩
theorem cvX5_write : rb_cV yX5_write cX5_write 8 (some .long) 3 := ⟨List.mem_of_getElem? (i := 1150) (by decide +kernel), List.mem_of_getElem? (i := 1151) (by decide +kernel), wI_X5, List.mem_of_getElem? (i := 1152) (by decide +kernel), by decide +kernel, by decide⟩
theorem cvX5_copy : rb_cV yX5_copy cX5_copy 7 (some .int) 5 := ⟨List.mem_of_getElem? (i := 1162) (by decide +kernel), List.mem_of_getElem? (i := 1163) (by decide +kernel), wI_X5, List.mem_of_getElem? (i := 1164) (by decide +kernel), by decide +kernel, by decide⟩
theorem cvX5_lays : rb_cV yX5_lays cX5_lays 6 (some .int) 1 := ⟨List.mem_of_getElem? (i := 1166) (by decide +kernel), List.mem_of_getElem? (i := 1167) (by decide +kernel), wI_X5, List.mem_of_getElem? (i := 1168) (by decide +kernel), by decide +kernel, by decide⟩
theorem cvX5_wrongBook : rb_cV yX5_wrongBook cX5_wrongBook 4 (some .int) 2 := ⟨List.mem_of_getElem? (i := 1175) (by decide +kernel), List.mem_of_getElem? (i := 65) (by decide +kernel), wI_X5, List.mem_of_getElem? (i := 1176) (by decide +kernel), by decide +kernel, by decide⟩
theorem cvX5_book : rb_cV yX5_book cX5_book 5 (some .int) 2 := ⟨List.mem_of_getElem? (i := 1170) (by decide +kernel), List.mem_of_getElem? (i := 1171) (by decide +kernel), wI_X5, List.mem_of_getElem? (i := 1172) (by decide +kernel), by decide +kernel, by decide⟩
theorem cvX5_isBook : rb_cV yX5_isBook cX5_isBook 4 (some .boolean) 2 := ⟨List.mem_of_getElem? (i := 1183) (by decide +kernel), List.mem_of_getElem? (i := 66) (by decide +kernel), wI_X5, List.mem_of_getElem? (i := 1184) (by decide +kernel), by decide +kernel, by decide⟩
theorem cvX5_read : rb_cV yX5_read cX5_read 7 (some .int) 2 := ⟨List.mem_of_getElem? (i := 1178) (by decide +kernel), List.mem_of_getElem? (i := 1179) (by decide +kernel), wI_X5, List.mem_of_getElem? (i := 1180) (by decide +kernel), by decide +kernel, by decide⟩
theorem cvX5_image : rb_cV yX5_image cX5_image 2 (some .int) 0 := ⟨List.mem_of_getElem? (i := 1186) (by decide +kernel), List.mem_of_getElem? (i := 1187) (by decide +kernel), wI_X5, List.mem_of_getElem? (i := 1188) (by decide +kernel), by decide +kernel, by decide⟩
theorem cvX5_undo : rb_cV yX5_undo cX5_undo 2 (some .int) 0 := ⟨List.mem_of_getElem? (i := 1190) (by decide +kernel), List.mem_of_getElem? (i := 1191) (by decide +kernel), wI_X5, List.mem_of_getElem? (i := 1192) (by decide +kernel), by decide +kernel, by decide⟩
theorem cvX5_tear : rb_cV yX5_tear cX5_tear 2 (some .int) 0 := ⟨List.mem_of_getElem? (i := 1194) (by decide +kernel), List.mem_of_getElem? (i := 1195) (by decide +kernel), wI_X5, List.mem_of_getElem? (i := 1196) (by decide +kernel), by decide +kernel, by decide⟩
theorem cvX5_bedsAll : rb_cV yX5_bedsAll cX5_bedsAll 3 (some .int) 0 := ⟨List.mem_of_getElem? (i := 1203) (by decide +kernel), List.mem_of_getElem? (i := 67) (by decide +kernel), wI_X5, List.mem_of_getElem? (i := 1204) (by decide +kernel), by decide +kernel, by decide⟩
theorem cvX5_count : rb_cV yX5_count cX5_count 2 (some .int) 1 := ⟨List.mem_of_getElem? (i := 1198) (by decide +kernel), List.mem_of_getElem? (i := 1199) (by decide +kernel), wI_X5, List.mem_of_getElem? (i := 1200) (by decide +kernel), by decide +kernel, by decide⟩
theorem cvX5_status : rb_cV yX5_status cX5_status 4 (some .int) 1 := ⟨List.mem_of_getElem? (i := 1206) (by decide +kernel), List.mem_of_getElem? (i := 1207) (by decide +kernel), wI_X5, List.mem_of_getElem? (i := 1208) (by decide +kernel), by decide +kernel, by decide⟩
theorem cvJ9_max_7cf53 : rb_cS yJ9_max_7cf53 cJ9_max_7cf53 2 (some .int) 2 := ⟨List.mem_of_getElem? (i := 260) (by decide +kernel), wI_J9, List.mem_of_getElem? (i := 261) (by decide +kernel), by decide +kernel, by decide⟩
theorem cvJ9_min_7cf53 : rb_cS yJ9_min_7cf53 cJ9_min_7cf53 2 (some .int) 2 := ⟨List.mem_of_getElem? (i := 367) (by decide +kernel), wI_J9, List.mem_of_getElem? (i := 368) (by decide +kernel), by decide +kernel, by decide⟩
theorem cvJ0_length_8abf5 : rb_cV yJ0_length_8abf5 cJ0_length_8abf5 1 (some .int) 0 := ⟨List.mem_of_getElem? (i := 535) (by decide +kernel), List.mem_of_getElem? (i := 536) (by decide +kernel), wI_J0, List.mem_of_getElem? (i := 537) (by decide +kernel), by decide +kernel, by decide⟩
theorem cvJ0_charAt_5068e : rb_cV yJ0_charAt_5068e cJ0_charAt_5068e 2 (some .char) 1 := ⟨List.mem_of_getElem? (i := 545) (by decide +kernel), List.mem_of_getElem? (i := 546) (by decide +kernel), wI_J0, List.mem_of_getElem? (i := 547) (by decide +kernel), by decide +kernel, by decide⟩
theorem cvJ0_coder_7d493 : rb_cV yJ0_coder_7d493 cJ0_coder_7d493 1 (some .byte) 0 := ⟨List.mem_of_getElem? (i := 539) (by decide +kernel), List.mem_of_getElem? (i := 540) (by decide +kernel), wI_J0, List.mem_of_getElem? (i := 541) (by decide +kernel), by decide +kernel, by decide⟩
theorem cvJ0_isLatin1_aae02 : rb_cV yJ0_isLatin1_aae02 cJ0_isLatin1_aae02 1 (some .boolean) 0 := ⟨List.mem_of_getElem? (i := 549) (by decide +kernel), List.mem_of_getElem? (i := 550) (by decide +kernel), wI_J0, List.mem_of_getElem? (i := 551) (by decide +kernel), by decide +kernel, by decide⟩
theorem cvJ0_checkIndex_df160 : rb_cS yJ0_checkIndex_df160 cJ0_checkIndex_df160 2 none 2 := ⟨List.mem_of_getElem? (i := 556) (by decide +kernel), wI_J0, List.mem_of_getElem? (i := 557) (by decide +kernel), by decide +kernel, by decide⟩
theorem cvJ1_charAt_3b067 : rb_cS yJ1_charAt_3b067 cJ1_charAt_3b067 2 (some .char) 2 := ⟨List.mem_of_getElem? (i := 553) (by decide +kernel), wI_J1, List.mem_of_getElem? (i := 554) (by decide +kernel), by decide +kernel, by decide⟩
theorem cvJ2_getChar_3b067 : rb_cS yJ2_getChar_3b067 cJ2_getChar_3b067 2 (some .char) 2 := ⟨List.mem_of_getElem? (i := 574) (by decide +kernel), wI_J2, List.mem_of_getElem? (i := 575) (by decide +kernel), by decide +kernel, by decide⟩
theorem cvJ2_length_9d52b : rb_cS yJ2_length_9d52b cJ2_length_9d52b 1 (some .int) 1 := ⟨List.mem_of_getElem? (i := 570) (by decide +kernel), wI_J2, List.mem_of_getElem? (i := 571) (by decide +kernel), by decide +kernel, by decide⟩
theorem cvJ2_charAt_3b067 : rb_cS yJ2_charAt_3b067 cJ2_charAt_3b067 2 (some .char) 2 := ⟨List.mem_of_getElem? (i := 564) (by decide +kernel), wI_J2, List.mem_of_getElem? (i := 565) (by decide +kernel), by decide +kernel, by decide⟩
theorem cvJ2_checkIndex_2214a : rb_cS yJ2_checkIndex_2214a cJ2_checkIndex_2214a 2 none 2 := ⟨List.mem_of_getElem? (i := 567) (by decide +kernel), wI_J2, List.mem_of_getElem? (i := 568) (by decide +kernel), by decide +kernel, by decide⟩
theorem fX4_10 : rb_FL RX4 10 3 0 := ⟨_, rfl, by decide, Or.inl (List.mem_of_getElem? (i := 196) (by decide +kernel))⟩
theorem fX4_16 : rb_FL RX4 16 3 1 := ⟨_, rfl, by decide, Or.inl (List.mem_of_getElem? (i := 197) (by decide +kernel))⟩
theorem fX4_19 : rb_FL RX4 19 3 2 := ⟨_, rfl, by decide, Or.inl (List.mem_of_getElem? (i := 198) (by decide +kernel))⟩
theorem fX4_22 : rb_FL RX4 22 3 3 := ⟨_, rfl, by decide, Or.inl (List.mem_of_getElem? (i := 199) (by decide +kernel))⟩
theorem fX4_29 : rb_FL RX4 29 3 4 := ⟨_, rfl, by decide, Or.inl (List.mem_of_getElem? (i := 200) (by decide +kernel))⟩
theorem fX4_35 : rb_FL RX4 35 3 5 := ⟨_, rfl, by decide, Or.inl (List.mem_of_getElem? (i := 201) (by decide +kernel))⟩
theorem fX4_39 : rb_FL RX4 39 3 6 := ⟨_, rfl, by decide, Or.inl (List.mem_of_getElem? (i := 202) (by decide +kernel))⟩
theorem mX4_44 : Cond.methodLink RX4 44 yX4_isHouse ∈ lw_tbl := List.mem_of_getElem? (i := 222) (by decide +kernel)
theorem mX4_48 : Cond.methodLink RX4 48 yX4_mostOfHouse ∈ lw_tbl := List.mem_of_getElem? (i := 225) (by decide +kernel)
theorem mX4_52 : Cond.methodLink RX4 52 yX4_isWithin ∈ lw_tbl := List.mem_of_getElem? (i := 228) (by decide +kernel)
theorem kX4_56 : Cond.constant RX4 56 (-1000000001) ∈ lw_tbl := List.mem_of_getElem? (i := 231) (by decide +kernel)
theorem mX4_57 : Cond.methodLink RX4 57 yX4_finding ∈ lw_tbl := List.mem_of_getElem? (i := 232) (by decide +kernel)
theorem fX4_60 : rb_FL RX4 60 2 0 := ⟨_, rfl, by decide, Or.inr ⟨"RumourBeds", List.mem_of_getElem? (i := 96) (by decide +kernel)⟩⟩
theorem fX4_63 : rb_FL RX4 63 2 1 := ⟨_, rfl, by decide, Or.inr ⟨"RumourBeds", List.mem_of_getElem? (i := 99) (by decide +kernel)⟩⟩
theorem fX4_66 : rb_FL RX4 66 2 2 := ⟨_, rfl, by decide, Or.inr ⟨"RumourBeds", List.mem_of_getElem? (i := 102) (by decide +kernel)⟩⟩
theorem mX4_69 : Cond.methodLink RX4 69 yX3_thoseIn ∈ lw_tbl := List.mem_of_getElem? (i := 240) (by decide +kernel)
theorem mX4_72 : Cond.methodLink RX4 72 yX3_eventsIn ∈ lw_tbl := List.mem_of_getElem? (i := 244) (by decide +kernel)
theorem mX4_75 : Cond.methodLink RX4 75 yX3_eatenIn ∈ lw_tbl := List.mem_of_getElem? (i := 248) (by decide +kernel)
theorem mX4_78 : Cond.methodLink RX4 78 yX4_isKind ∈ lw_tbl := List.mem_of_getElem? (i := 266) (by decide +kernel)
theorem mX4_81 : Cond.methodLink RX4 81 yX4_isEvent ∈ lw_tbl := List.mem_of_getElem? (i := 269) (by decide +kernel)
theorem mX4_84 : Cond.methodLink RX4 84 yX3_isFull ∈ lw_tbl := List.mem_of_getElem? (i := 272) (by decide +kernel)
theorem kX4_88 : Cond.constant RX4 88 (-1000000002) ∈ lw_tbl := List.mem_of_getElem? (i := 276) (by decide +kernel)
theorem mX4_89 : Cond.methodLink RX4 89 yX3_addOne ∈ lw_tbl := List.mem_of_getElem? (i := 277) (by decide +kernel)
theorem mX4_93 : Cond.methodLink RX4 93 yX4_isRumour ∈ lw_tbl := List.mem_of_getElem? (i := 286) (by decide +kernel)
theorem fX4_96 : rb_FL RX4 96 2 5 := ⟨_, rfl, by decide, Or.inr ⟨"RumourBeds", List.mem_of_getElem? (i := 109) (by decide +kernel)⟩⟩
theorem fX4_99 : rb_FL RX4 99 2 6 := ⟨_, rfl, by decide, Or.inr ⟨"RumourBeds", List.mem_of_getElem? (i := 111) (by decide +kernel)⟩⟩
theorem fX4_102 : rb_FL RX4 102 2 7 := ⟨_, rfl, by decide, Or.inr ⟨"RumourBeds", List.mem_of_getElem? (i := 113) (by decide +kernel)⟩⟩
theorem fX4_105 : rb_FL RX4 105 2 8 := ⟨_, rfl, by decide, Or.inr ⟨"RumourBeds", List.mem_of_getElem? (i := 116) (by decide +kernel)⟩⟩
theorem fX4_108 : rb_FL RX4 108 2 9 := ⟨_, rfl, by decide, Or.inr ⟨"RumourBeds", List.mem_of_getElem? (i := 118) (by decide +kernel)⟩⟩
theorem mX4_111 : Cond.methodLink RX4 111 yX3_eatsOf ∈ lw_tbl := List.mem_of_getElem? (i := 290) (by decide +kernel)
theorem mX4_114 : Cond.methodLink RX4 114 yX3_needsOf ∈ lw_tbl := List.mem_of_getElem? (i := 291) (by decide +kernel)
theorem mX4_117 : Cond.methodLink RX4 117 yX3_growsOf ∈ lw_tbl := List.mem_of_getElem? (i := 298) (by decide +kernel)
theorem mX4_120 : Cond.methodLink RX4 120 yX4_mostOfRumour ∈ lw_tbl := List.mem_of_getElem? (i := 309) (by decide +kernel)
theorem mX4_123 : Cond.methodLink RX4 123 yX0_isUnder ∈ lw_tbl := List.mem_of_getElem? (i := 320) (by decide +kernel)
theorem kX4_128 : Cond.constant RX4 128 (-1000000003) ∈ lw_tbl := List.mem_of_getElem? (i := 325) (by decide +kernel)
theorem mX4_129 : Cond.methodLink RX4 129 yX3_wouldTake ∈ lw_tbl := List.mem_of_getElem? (i := 330) (by decide +kernel)
theorem mX4_132 : Cond.methodLink RX4 132 yX3_isTrue ∈ lw_tbl := List.mem_of_getElem? (i := 342) (by decide +kernel)
theorem kX4_135 : Cond.constant RX4 135 (-1000000005) ∈ lw_tbl := List.mem_of_getElem? (i := 346) (by decide +kernel)
theorem mX4_136 : Cond.methodLink RX4 136 yX3_hostFor ∈ lw_tbl := List.mem_of_getElem? (i := 347) (by decide +kernel)
theorem mX4_139 : Cond.methodLink RX4 139 yX3_lodge ∈ lw_tbl := List.mem_of_getElem? (i := 354) (by decide +kernel)
theorem mX4_143 : Cond.methodLink RX4 143 yX3_improveBy ∈ lw_tbl := List.mem_of_getElem? (i := 362) (by decide +kernel)
theorem mX4_146 : Cond.methodLink RX4 146 yX3_becomeTrue ∈ lw_tbl := List.mem_of_getElem? (i := 374) (by decide +kernel)
theorem fX4_149 : rb_FL RX4 149 2 11 := ⟨_, rfl, by decide, Or.inr ⟨"RumourBeds", List.mem_of_getElem? (i := 122) (by decide +kernel)⟩⟩
theorem fX4_153 : rb_FL RX4 153 2 10 := ⟨_, rfl, by decide, Or.inr ⟨"RumourBeds", List.mem_of_getElem? (i := 120) (by decide +kernel)⟩⟩
theorem mX4_156 : Cond.methodLink RX4 156 yX3_passDays ∈ lw_tbl := List.mem_of_getElem? (i := 386) (by decide +kernel)
theorem fX4_160 : rb_FL RX4 160 2 4 := ⟨_, rfl, by decide, Or.inr ⟨"RumourBeds", List.mem_of_getElem? (i := 107) (by decide +kernel)⟩⟩
theorem mX4_163 : Cond.methodLink RX4 163 yX3_bulkOfAll ∈ lw_tbl := List.mem_of_getElem? (i := 417) (by decide +kernel)
theorem mX4_167 : Cond.methodLink RX4 167 yX4_sumOf ∈ lw_tbl := List.mem_of_getElem? (i := 421) (by decide +kernel)
theorem mX4_171 : Cond.methodLink RX4 171 yX3_freeBeds ∈ lw_tbl := List.mem_of_getElem? (i := 424) (by decide +kernel)
theorem mX4_174 : Cond.methodLink RX4 174 yX3_eatenInAll ∈ lw_tbl := List.mem_of_getElem? (i := 429) (by decide +kernel)
theorem mX4_177 : Cond.methodLink RX4 177 yX3_becomes ∈ lw_tbl := List.mem_of_getElem? (i := 438) (by decide +kernel)
theorem mX4_181 : Cond.methodLink RX4 181 yX3_passDay ∈ lw_tbl := List.mem_of_getElem? (i := 453) (by decide +kernel)
theorem kX4_184 : Cond.constant RX4 184 (-1000000004) ∈ lw_tbl := List.mem_of_getElem? (i := 454) (by decide +kernel)
theorem mX4_185 : Cond.methodLink RX4 185 yX3_hasBedFree ∈ lw_tbl := List.mem_of_getElem? (i := 479) (by decide +kernel)
theorem mX4_188 : Cond.methodLink RX4 188 yX0_eats ∈ lw_tbl := List.mem_of_getElem? (i := 488) (by decide +kernel)
theorem fX4_191 : rb_FL RX4 191 1 1 := ⟨_, rfl, by decide, Or.inr ⟨"RumourBeds", List.mem_of_getElem? (i := 157) (by decide +kernel)⟩⟩
theorem mX4_194 : Cond.methodLink RX4 194 yX2_addByte ∈ lw_tbl := List.mem_of_getElem? (i := 501) (by decide +kernel)
theorem mX4_197 : Cond.methodLink RX4 197 yX2_tellTo ∈ lw_tbl := List.mem_of_getElem? (i := 513) (by decide +kernel)
theorem mX4_201 : Cond.methodLink RX4 201 yX4_isSheet ∈ lw_tbl := List.mem_of_getElem? (i := 636) (by decide +kernel)
theorem kX4_204 : Cond.constant RX4 204 (-1000000007) ∈ lw_tbl := List.mem_of_getElem? (i := 639) (by decide +kernel)
theorem mX4_205 : Cond.methodLink RX4 205 yX1_begin ∈ lw_tbl := List.mem_of_getElem? (i := 640) (by decide +kernel)
theorem fX4_208 : rb_FL RX4 208 0 1 := ⟨_, rfl, by decide, Or.inr ⟨"RumourBeds", List.mem_of_getElem? (i := 185) (by decide +kernel)⟩⟩
theorem mX4_209 : Cond.methodLink RX4 209 yX1_isMissing ∈ lw_tbl := List.mem_of_getElem? (i := 648) (by decide +kernel)
theorem kX4_212 : Cond.constant RX4 212 (-1000000006) ∈ lw_tbl := List.mem_of_getElem? (i := 652) (by decide +kernel)
theorem fX4_213 : rb_FL RX4 213 0 2 := ⟨_, rfl, by decide, Or.inr ⟨"RumourBeds", List.mem_of_getElem? (i := 187) (by decide +kernel)⟩⟩
theorem mX4_217 : Cond.methodLink RX4 217 yX1_put ∈ lw_tbl := List.mem_of_getElem? (i := 653) (by decide +kernel)
theorem fX4_221 : rb_FL RX4 221 0 0 := ⟨_, rfl, by decide, Or.inr ⟨"RumourBeds", List.mem_of_getElem? (i := 183) (by decide +kernel)⟩⟩
theorem mX4_224 : Cond.methodLink RX4 224 yX1_hasRange ∈ lw_tbl := List.mem_of_getElem? (i := 661) (by decide +kernel)
theorem mX4_227 : Cond.methodLink RX4 227 ⟨"java/lang/System", "arraycopy", "(Ljava/lang/Object;ILjava/lang/Object;II)V"⟩ ∈ lw_tbl := List.mem_of_getElem? (i := 665) (by decide +kernel)
theorem kX4_233 : Cond.constantLong RX4 233 (9) ∈ lw_tbl := List.mem_of_getElem? (i := 670) (by decide +kernel)
theorem mX4_235 : Cond.methodLink RX4 235 yX4_findingOfBook ∈ lw_tbl := List.mem_of_getElem? (i := 675) (by decide +kernel)
theorem mX4_239 : Cond.methodLink RX4 239 yX4_isBookOf ∈ lw_tbl := List.mem_of_getElem? (i := 683) (by decide +kernel)
theorem fX4_243 : rb_FL RX4 243 2 3 := ⟨_, rfl, by decide, Or.inr ⟨"RumourBeds", List.mem_of_getElem? (i := 105) (by decide +kernel)⟩⟩
theorem fX5_7 : rb_FL RX5 7 4 0 := ⟨_, rfl, by decide, Or.inl (List.mem_of_getElem? (i := 716) (by decide +kernel))⟩
theorem fX5_13 : rb_FL RX5 13 4 1 := ⟨_, rfl, by decide, Or.inl (List.mem_of_getElem? (i := 717) (by decide +kernel))⟩
theorem fX5_16 : rb_FL RX5 16 4 2 := ⟨_, rfl, by decide, Or.inl (List.mem_of_getElem? (i := 718) (by decide +kernel))⟩
theorem fX5_19 : rb_FL RX5 19 4 3 := ⟨_, rfl, by decide, Or.inl (List.mem_of_getElem? (i := 719) (by decide +kernel))⟩
theorem fX5_22 : rb_FL RX5 22 4 4 := ⟨_, rfl, by decide, Or.inl (List.mem_of_getElem? (i := 720) (by decide +kernel))⟩
theorem fX5_25 : rb_FL RX5 25 4 6 := ⟨_, rfl, by decide, Or.inl (List.mem_of_getElem? (i := 722) (by decide +kernel))⟩
theorem fX5_28 : rb_FL RX5 28 4 12 := ⟨_, rfl, by decide, Or.inl (List.mem_of_getElem? (i := 728) (by decide +kernel))⟩
theorem fX5_31 : rb_FL RX5 31 4 13 := ⟨_, rfl, by decide, Or.inl (List.mem_of_getElem? (i := 729) (by decide +kernel))⟩
theorem fX5_34 : rb_FL RX5 34 4 14 := ⟨_, rfl, by decide, Or.inl (List.mem_of_getElem? (i := 730) (by decide +kernel))⟩
theorem fX5_38 : rb_FL RX5 38 4 15 := ⟨_, rfl, by decide, Or.inl (List.mem_of_getElem? (i := 731) (by decide +kernel))⟩
theorem mX5_41 : Cond.methodLink RX5 41 yX5_partOf ∈ lw_tbl := List.mem_of_getElem? (i := 713) (by decide +kernel)
theorem kX5_45 : Cond.constant RX5 45 (-1000000001) ∈ lw_tbl := List.mem_of_getElem? (i := 784) (by decide +kernel)
theorem kX5_46 : Cond.constantLong RX5 46 (7) ∈ lw_tbl := List.mem_of_getElem? (i := 779) (by decide +kernel)
theorem mX5_48 : Cond.methodLink RX5 48 yX5_in ∈ lw_tbl := List.mem_of_getElem? (i := 770) (by decide +kernel)
theorem kX5_52 : Cond.constantLong RX5 52 (5) ∈ lw_tbl := List.mem_of_getElem? (i := 793) (by decide +kernel)
theorem kX5_54 : Cond.constantLong RX5 54 (15) ∈ lw_tbl := List.mem_of_getElem? (i := 831) (by decide +kernel)
theorem mX5_56 : Cond.methodLink RX5 56 yX5_spotOf ∈ lw_tbl := List.mem_of_getElem? (i := 806) (by decide +kernel)
theorem kX5_59 : Cond.constantLong RX5 59 (2) ∈ lw_tbl := List.mem_of_getElem? (i := 769) (by decide +kernel)
theorem kX5_61 : Cond.constantLong RX5 61 (3) ∈ lw_tbl := List.mem_of_getElem? (i := 773) (by decide +kernel)
theorem kX5_63 : Cond.constantLong RX5 63 (999) ∈ lw_tbl := List.mem_of_getElem? (i := 774) (by decide +kernel)
theorem kX5_65 : Cond.constantLong RX5 65 (9) ∈ lw_tbl := List.mem_of_getElem? (i := 775) (by decide +kernel)
theorem mX5_67 : Cond.methodLink RX5 67 yX5_isHouse ∈ lw_tbl := List.mem_of_getElem? (i := 776) (by decide +kernel)
theorem mX5_71 : Cond.methodLink RX5 71 yX5_becomes ∈ lw_tbl := List.mem_of_getElem? (i := 780) (by decide +kernel)
theorem mX5_74 : Cond.methodLink RX5 74 yX5_finds ∈ lw_tbl := List.mem_of_getElem? (i := 785) (by decide +kernel)
theorem mX5_78 : Cond.methodLink RX5 78 yX5_its ∈ lw_tbl := List.mem_of_getElem? (i := 802) (by decide +kernel)
theorem mX5_81 : Cond.methodLink RX5 81 yX5_eats ∈ lw_tbl := List.mem_of_getElem? (i := 817) (by decide +kernel)
theorem mX5_84 : Cond.methodLink RX5 84 yX5_has ∈ lw_tbl := List.mem_of_getElem? (i := 794) (by decide +kernel)
theorem mX5_87 : Cond.methodLink RX5 87 yX5_thoseAt ∈ lw_tbl := List.mem_of_getElem? (i := 798) (by decide +kernel)
theorem mX5_90 : Cond.methodLink RX5 90 yX5_eventsAt ∈ lw_tbl := List.mem_of_getElem? (i := 809) (by decide +kernel)
theorem mX5_93 : Cond.methodLink RX5 93 yX5_eatenAt ∈ lw_tbl := List.mem_of_getElem? (i := 813) (by decide +kernel)
theorem mX5_96 : Cond.methodLink RX5 96 yX5_isKind ∈ lw_tbl := List.mem_of_getElem? (i := 825) (by decide +kernel)
theorem mX5_99 : Cond.methodLink RX5 99 yX5_isEvent ∈ lw_tbl := List.mem_of_getElem? (i := 828) (by decide +kernel)
theorem kX5_102 : Cond.constant RX5 102 (-1000000002) ∈ lw_tbl := List.mem_of_getElem? (i := 832) (by decide +kernel)
theorem mX5_103 : Cond.methodLink RX5 103 yX5_adds ∈ lw_tbl := List.mem_of_getElem? (i := 833) (by decide +kernel)
theorem mX5_106 : Cond.methodLink RX5 106 yX5_isRumour ∈ lw_tbl := List.mem_of_getElem? (i := 841) (by decide +kernel)
theorem mX5_109 : Cond.methodLink RX5 109 yX5_needs ∈ lw_tbl := List.mem_of_getElem? (i := 845) (by decide +kernel)
theorem mX5_112 : Cond.methodLink RX5 112 yX5_grows ∈ lw_tbl := List.mem_of_getElem? (i := 849) (by decide +kernel)
theorem kX5_115 : Cond.constantLong RX5 115 (99) ∈ lw_tbl := List.mem_of_getElem? (i := 857) (by decide +kernel)
theorem mX5_117 : Cond.methodLink RX5 117 yX5_isUnder ∈ lw_tbl := List.mem_of_getElem? (i := 866) (by decide +kernel)
theorem kX5_121 : Cond.constant RX5 121 (-1000000003) ∈ lw_tbl := List.mem_of_getElem? (i := 869) (by decide +kernel)
theorem mX5_122 : Cond.methodLink RX5 122 yX5_ones ∈ lw_tbl := List.mem_of_getElem? (i := 882) (by decide +kernel)
theorem mX5_125 : Cond.methodLink RX5 125 yX5_isFree ∈ lw_tbl := List.mem_of_getElem? (i := 878) (by decide +kernel)
theorem mX5_128 : Cond.methodLink RX5 128 yX5_isTaken ∈ lw_tbl := List.mem_of_getElem? (i := 874) (by decide +kernel)
theorem mX5_131 : Cond.methodLink RX5 131 yX5_isTrue ∈ lw_tbl := List.mem_of_getElem? (i := 889) (by decide +kernel)
theorem kX5_134 : Cond.constant RX5 134 (-1000000005) ∈ lw_tbl := List.mem_of_getElem? (i := 893) (by decide +kernel)
theorem mX5_135 : Cond.methodLink RX5 135 yX5_hostOf ∈ lw_tbl := List.mem_of_getElem? (i := 894) (by decide +kernel)
theorem mX5_138 : Cond.methodLink RX5 138 yX5_heldTo ∈ lw_tbl := List.mem_of_getElem? (i := 907) (by decide +kernel)
theorem kX5_141 : Cond.constantLong RX5 141 (20) ∈ lw_tbl := List.mem_of_getElem? (i := 902) (by decide +kernel)
theorem mX5_143 : Cond.methodLink RX5 143 yX5_isImproved ∈ lw_tbl := List.mem_of_getElem? (i := 903) (by decide +kernel)
theorem mX5_147 : Cond.methodLink RX5 147 yX5_becomesTrue ∈ lw_tbl := List.mem_of_getElem? (i := 914) (by decide +kernel)
theorem mX5_150 : Cond.methodLink RX5 150 yX5_lodgersOf ∈ lw_tbl := List.mem_of_getElem? (i := 943) (by decide +kernel)
theorem mX5_153 : Cond.methodLink RX5 153 yX5_isOnRoad ∈ lw_tbl := List.mem_of_getElem? (i := 947) (by decide +kernel)
theorem mX5_156 : Cond.methodLink RX5 156 yX5_feeds ∈ lw_tbl := List.mem_of_getElem? (i := 935) (by decide +kernel)
theorem mX5_160 : Cond.methodLink RX5 160 yX5_makesThird ∈ lw_tbl := List.mem_of_getElem? (i := 939) (by decide +kernel)
theorem mX5_163 : Cond.methodLink RX5 163 yX5_day ∈ lw_tbl := List.mem_of_getElem? (i := 931) (by decide +kernel)
theorem kX5_166 : Cond.constantLong RX5 166 (60) ∈ lw_tbl := List.mem_of_getElem? (i := 926) (by decide +kernel)
theorem mX5_168 : Cond.methodLink RX5 168 yX5_daysGo ∈ lw_tbl := List.mem_of_getElem? (i := 927) (by decide +kernel)
theorem mX5_171 : Cond.methodLink RX5 171 yX5_bulks ∈ lw_tbl := List.mem_of_getElem? (i := 955) (by decide +kernel)
theorem mX5_175 : Cond.methodLink RX5 175 yX5_larders ∈ lw_tbl := List.mem_of_getElem? (i := 959) (by decide +kernel)
theorem mX5_178 : Cond.methodLink RX5 178 yX5_freeBeds ∈ lw_tbl := List.mem_of_getElem? (i := 963) (by decide +kernel)
theorem mX5_181 : Cond.methodLink RX5 181 yX5_eaten ∈ lw_tbl := List.mem_of_getElem? (i := 967) (by decide +kernel)
theorem mX5_184 : Cond.methodLink RX5 184 yX5_laysAside ∈ lw_tbl := List.mem_of_getElem? (i := 982) (by decide +kernel)
theorem mX5_187 : Cond.methodLink RX5 187 yX5_takesBack ∈ lw_tbl := List.mem_of_getElem? (i := 986) (by decide +kernel)
theorem mX5_190 : Cond.methodLink RX5 190 yX5_isAhead ∈ lw_tbl := List.mem_of_getElem? (i := 975) (by decide +kernel)
theorem mX5_193 : Cond.methodLink RX5 193 yX5_behind ∈ lw_tbl := List.mem_of_getElem? (i := 978) (by decide +kernel)
theorem kX5_196 : Cond.constant RX5 196 (-1000000004) ∈ lw_tbl := List.mem_of_getElem? (i := 1002) (by decide +kernel)
theorem mX5_197 : Cond.methodLink RX5 197 yX5_firstAs ∈ lw_tbl := List.mem_of_getElem? (i := 998) (by decide +kernel)
theorem mX5_200 : Cond.methodLink RX5 200 yX5_wrongLodger ∈ lw_tbl := List.mem_of_getElem? (i := 1015) (by decide +kernel)
theorem mX5_203 : Cond.methodLink RX5 203 yX5_isSoon ∈ lw_tbl := List.mem_of_getElem? (i := 1027) (by decide +kernel)
theorem kX5_206 : Cond.constantLong RX5 206 (4) ∈ lw_tbl := List.mem_of_getElem? (i := 1054) (by decide +kernel)
theorem fX5_208 : rb_FL RX5 208 4 7 := ⟨_, rfl, by decide, Or.inl (List.mem_of_getElem? (i := 723) (by decide +kernel))⟩
theorem kX5_212 : Cond.constantLong RX5 212 (97) ∈ lw_tbl := List.mem_of_getElem? (i := 1078) (by decide +kernel)
theorem kX5_214 : Cond.constantLong RX5 214 (122) ∈ lw_tbl := List.mem_of_getElem? (i := 1079) (by decide +kernel)
theorem kX5_216 : Cond.constantLong RX5 216 (48) ∈ lw_tbl := List.mem_of_getElem? (i := 1083) (by decide +kernel)
theorem kX5_218 : Cond.constantLong RX5 218 (57) ∈ lw_tbl := List.mem_of_getElem? (i := 1084) (by decide +kernel)
theorem fX5_220 : rb_FL RX5 220 4 9 := ⟨_, rfl, by decide, Or.inl (List.mem_of_getElem? (i := 725) (by decide +kernel))⟩
theorem fX5_223 : rb_FL RX5 223 4 8 := ⟨_, rfl, by decide, Or.inl (List.mem_of_getElem? (i := 724) (by decide +kernel))⟩
theorem mX5_226 : Cond.methodLink RX5 226 yX5_byteAt ∈ lw_tbl := List.mem_of_getElem? (i := 1071) (by decide +kernel)
theorem mX5_229 : Cond.methodLink RX5 229 yX5_isLetter ∈ lw_tbl := List.mem_of_getElem? (i := 1075) (by decide +kernel)
theorem mX5_232 : Cond.methodLink RX5 232 yX5_isDigit ∈ lw_tbl := List.mem_of_getElem? (i := 1080) (by decide +kernel)
theorem fX5_235 : rb_FL RX5 235 4 11 := ⟨_, rfl, by decide, Or.inl (List.mem_of_getElem? (i := 727) (by decide +kernel))⟩
theorem mX5_239 : Cond.methodLink RX5 239 yX5_token ∈ lw_tbl := List.mem_of_getElem? (i := 1067) (by decide +kernel)
theorem kX5_242 : Cond.constantLong RX5 242 (36028797018963967) ∈ lw_tbl := List.mem_of_getElem? (i := 1097) (by decide +kernel)
theorem kX5_244 : Cond.constantLong RX5 244 (32) ∈ lw_tbl := List.mem_of_getElem? (i := 1098) (by decide +kernel)
theorem fX5_246 : rb_FL RX5 246 4 10 := ⟨_, rfl, by decide, Or.inl (List.mem_of_getElem? (i := 726) (by decide +kernel))⟩
theorem mX5_249 : Cond.methodLink RX5 249 yX5_must ∈ lw_tbl := List.mem_of_getElem? (i := 1109) (by decide +kernel)
theorem mX5_253 : Cond.methodLink RX5 253 yX5_word ∈ lw_tbl := List.mem_of_getElem? (i := 1093) (by decide +kernel)
theorem kX5_257 : Cond.constantLong RX5 257 (626441906) ∈ lw_tbl := List.mem_of_getElem? (i := 1099) (by decide +kernel)
theorem kX5_259 : Cond.constantLong RX5 259 (2343) ∈ lw_tbl := List.mem_of_getElem? (i := 1100) (by decide +kernel)
theorem kX5_261 : Cond.constantLong RX5 261 (152972) ∈ lw_tbl := List.mem_of_getElem? (i := 1101) (by decide +kernel)
theorem kX5_263 : Cond.constantLong RX5 263 (19737) ∈ lw_tbl := List.mem_of_getElem? (i := 1102) (by decide +kernel)
theorem kX5_265 : Cond.constantLong RX5 265 (19391532) ∈ lw_tbl := List.mem_of_getElem? (i := 1103) (by decide +kernel)
theorem kX5_267 : Cond.constantLong RX5 267 (24293779) ∈ lw_tbl := List.mem_of_getElem? (i := 1104) (by decide +kernel)
theorem mX5_269 : Cond.methodLink RX5 269 yX5_number ∈ lw_tbl := List.mem_of_getElem? (i := 1114) (by decide +kernel)
theorem kX5_272 : Cond.constantLong RX5 272 (486) ∈ lw_tbl := List.mem_of_getElem? (i := 1113) (by decide +kernel)
theorem kX5_274 : Cond.constantLong RX5 274 (87435) ∈ lw_tbl := List.mem_of_getElem? (i := 1118) (by decide +kernel)
theorem mX5_276 : Cond.methodLink RX5 276 yX5_partItem ∈ lw_tbl := List.mem_of_getElem? (i := 1119) (by decide +kernel)
theorem kX5_280 : Cond.constantLong RX5 280 (302) ∈ lw_tbl := List.mem_of_getElem? (i := 1123) (by decide +kernel)
theorem mX5_282 : Cond.methodLink RX5 282 yX5_peeked ∈ lw_tbl := List.mem_of_getElem? (i := 1124) (by decide +kernel)
theorem kX5_285 : Cond.constantLong RX5 285 (70803) ∈ lw_tbl := List.mem_of_getElem? (i := 1133) (by decide +kernel)
theorem kX5_287 : Cond.constantLong RX5 287 (404295858) ∈ lw_tbl := List.mem_of_getElem? (i := 1134) (by decide +kernel)
theorem kX5_289 : Cond.constantLong RX5 289 (12748243) ∈ lw_tbl := List.mem_of_getElem? (i := 1135) (by decide +kernel)
theorem mX5_291 : Cond.methodLink RX5 291 yX5_kindHere ∈ lw_tbl := List.mem_of_getElem? (i := 1089) (by decide +kernel)
theorem mX5_294 : Cond.methodLink RX5 294 yX5_rumourItem ∈ lw_tbl := List.mem_of_getElem? (i := 1105) (by decide +kernel)
theorem kX5_297 : Cond.constantLong RX5 297 (8902245) ∈ lw_tbl := List.mem_of_getElem? (i := 1128) (by decide +kernel)
theorem mX5_299 : Cond.methodLink RX5 299 yX5_houseItem ∈ lw_tbl := List.mem_of_getElem? (i := 1129) (by decide +kernel)
theorem kX5_302 : Cond.constantLong RX5 302 (674469) ∈ lw_tbl := List.mem_of_getElem? (i := 1136) (by decide +kernel)
theorem mX5_304 : Cond.methodLink RX5 304 yX5_saves ∈ lw_tbl := List.mem_of_getElem? (i := 1063) (by decide +kernel)
theorem mX5_307 : Cond.methodLink RX5 307 yX5_item ∈ lw_tbl := List.mem_of_getElem? (i := 1085) (by decide +kernel)
theorem mX5_310 : Cond.methodLink RX5 310 yX5_putsBack ∈ lw_tbl := List.mem_of_getElem? (i := 1137) (by decide +kernel)
theorem mX5_313 : Cond.methodLink RX5 313 yX5_isOne ∈ lw_tbl := List.mem_of_getElem? (i := 1145) (by decide +kernel)
theorem kX5_316 : Cond.constant RX5 316 (-1000000007) ∈ lw_tbl := List.mem_of_getElem? (i := 1148) (by decide +kernel)
theorem kX5_317 : Cond.constant RX5 317 (-1000000006) ∈ lw_tbl := List.mem_of_getElem? (i := 1157) (by decide +kernel)
theorem mX5_318 : Cond.methodLink RX5 318 yX5_wrongSheet ∈ lw_tbl := List.mem_of_getElem? (i := 1153) (by decide +kernel)
theorem mX5_321 : Cond.methodLink RX5 321 yX5_narrowed ∈ lw_tbl := List.mem_of_getElem? (i := 1158) (by decide +kernel)
theorem mX5_325 : Cond.methodLink RX5 325 yX5_wrongBook ∈ lw_tbl := List.mem_of_getElem? (i := 1173) (by decide +kernel)
theorem mX5_328 : Cond.methodLink RX5 328 yX5_isBook ∈ lw_tbl := List.mem_of_getElem? (i := 1181) (by decide +kernel)
theorem fX5_331 : rb_FL RX5 331 4 5 := ⟨_, rfl, by decide, Or.inl (List.mem_of_getElem? (i := 721) (by decide +kernel))⟩
theorem mX5_334 : Cond.methodLink RX5 334 yX5_bedsAll ∈ lw_tbl := List.mem_of_getElem? (i := 1201) (by decide +kernel)
theorem kX5_337 : Cond.constantLong RX5 337 (-1) ∈ lw_tbl := List.mem_of_getElem? (i := 1209) (by decide +kernel)
theorem kX5_339 : Cond.constantLong RX5 339 (6) ∈ lw_tbl := List.mem_of_getElem? (i := 1210) (by decide +kernel)
theorem mX0_13 : Cond.methodLink RX0 13 yJ9_max_7cf53 ∈ lw_tbl := List.mem_of_getElem? (i := 259) (by decide +kernel)
theorem fX1_7 : rb_FL RX1 7 0 0 := ⟨_, rfl, by decide, Or.inl (List.mem_of_getElem? (i := 182) (by decide +kernel))⟩
theorem fX1_13 : rb_FL RX1 13 0 1 := ⟨_, rfl, by decide, Or.inl (List.mem_of_getElem? (i := 184) (by decide +kernel))⟩
theorem fX1_16 : rb_FL RX1 16 0 2 := ⟨_, rfl, by decide, Or.inl (List.mem_of_getElem? (i := 186) (by decide +kernel))⟩
theorem fX2_11 : rb_FL RX2 11 1 0 := ⟨_, rfl, by decide, Or.inl (List.mem_of_getElem? (i := 155) (by decide +kernel))⟩
theorem fX2_15 : rb_FL RX2 15 1 1 := ⟨_, rfl, by decide, Or.inl (List.mem_of_getElem? (i := 156) (by decide +kernel))⟩
theorem fX2_19 : rb_FL RX2 19 1 2 := ⟨_, rfl, by decide, Or.inl (List.mem_of_getElem? (i := 158) (by decide +kernel))⟩
theorem fX2_22 : rb_FL RX2 22 1 3 := ⟨_, rfl, by decide, Or.inl (List.mem_of_getElem? (i := 159) (by decide +kernel))⟩
theorem fX2_25 : rb_FL RX2 25 1 4 := ⟨_, rfl, by decide, Or.inl (List.mem_of_getElem? (i := 160) (by decide +kernel))⟩
theorem fX2_28 : rb_FL RX2 28 1 5 := ⟨_, rfl, by decide, Or.inl (List.mem_of_getElem? (i := 161) (by decide +kernel))⟩
theorem mX2_31 : Cond.methodLink RX2 31 yX2_nextToken ∈ lw_tbl := List.mem_of_getElem? (i := 517) (by decide +kernel)
theorem mX2_34 : Cond.methodLink RX2 34 yX2_tellItem ∈ lw_tbl := List.mem_of_getElem? (i := 525) (by decide +kernel)
theorem mX2_40 : Cond.methodLink RX2 40 yX2_isWord ∈ lw_tbl := List.mem_of_getElem? (i := 530) (by decide +kernel)
theorem mX2_44 : Cond.methodLink RX2 44 yX2_tellHouse ∈ lw_tbl := List.mem_of_getElem? (i := 582) (by decide +kernel)
theorem mX2_49 : Cond.methodLink RX2 49 yX2_tellTrue ∈ lw_tbl := List.mem_of_getElem? (i := 602) (by decide +kernel)
theorem mX2_54 : Cond.methodLink RX2 54 yX0_nameOf ∈ lw_tbl := List.mem_of_getElem? (i := 607) (by decide +kernel)
theorem mX2_58 : Cond.methodLink RX2 58 yX2_tellRumour ∈ lw_tbl := List.mem_of_getElem? (i := 616) (by decide +kernel)
theorem mX2_62 : Cond.methodLink RX2 62 yX2_passNumber ∈ lw_tbl := List.mem_of_getElem? (i := 586) (by decide +kernel)
theorem fX2_68 : rb_FL RX2 68 2 0 := ⟨_, rfl, by decide, Or.inr ⟨"RumourBeds", List.mem_of_getElem? (i := 97) (by decide +kernel)⟩⟩
theorem mX2_72 : Cond.methodLink RX2 72 yX2_tellPart ∈ lw_tbl := List.mem_of_getElem? (i := 595) (by decide +kernel)
theorem fX2_78 : rb_FL RX2 78 2 1 := ⟨_, rfl, by decide, Or.inr ⟨"RumourBeds", List.mem_of_getElem? (i := 100) (by decide +kernel)⟩⟩
theorem fX2_83 : rb_FL RX2 83 2 2 := ⟨_, rfl, by decide, Or.inr ⟨"RumourBeds", List.mem_of_getElem? (i := 103) (by decide +kernel)⟩⟩
theorem mX2_85 : Cond.methodLink RX2 85 yX3_becomeTrue ∈ lw_tbl := List.mem_of_getElem? (i := 606) (by decide +kernel)
theorem mX2_88 : Cond.methodLink RX2 88 yX3_isFull ∈ lw_tbl := List.mem_of_getElem? (i := 620) (by decide +kernel)
theorem mX2_94 : Cond.methodLink RX2 94 yX3_addOne ∈ lw_tbl := List.mem_of_getElem? (i := 622) (by decide +kernel)
theorem fX2_100 : rb_FL RX2 100 2 7 := ⟨_, rfl, by decide, Or.inr ⟨"RumourBeds", List.mem_of_getElem? (i := 114) (by decide +kernel)⟩⟩
theorem mX2_103 : Cond.methodLink RX2 103 yX2_tellLodging ∈ lw_tbl := List.mem_of_getElem? (i := 624) (by decide +kernel)
theorem mX2_106 : Cond.methodLink RX2 106 yX2_isNumber ∈ lw_tbl := List.mem_of_getElem? (i := 590) (by decide +kernel)
theorem mX2_112 : Cond.methodLink RX2 112 yX3_hasBedFree ∈ lw_tbl := List.mem_of_getElem? (i := 629) (by decide +kernel)
theorem mX2_115 : Cond.methodLink RX2 115 yX3_lodge ∈ lw_tbl := List.mem_of_getElem? (i := 630) (by decide +kernel)
theorem mX2_119 : Cond.methodLink RX2 119 yJ0_length_8abf5 ∈ lw_tbl := List.mem_of_getElem? (i := 534) (by decide +kernel)
theorem mX2_124 : Cond.methodLink RX2 124 yJ0_charAt_5068e ∈ lw_tbl := List.mem_of_getElem? (i := 544) (by decide +kernel)
theorem mX2_128 : Cond.methodLink RX2 128 yX2_sortOf ∈ lw_tbl := List.mem_of_getElem? (i := 521) (by decide +kernel)
theorem mX2_131 : Cond.methodLink RX2 131 yJ9_min_7cf53 ∈ lw_tbl := List.mem_of_getElem? (i := 524) (by decide +kernel)
theorem fX3_9 : rb_FL RX3 9 2 0 := ⟨_, rfl, by decide, Or.inl (List.mem_of_getElem? (i := 95) (by decide +kernel))⟩
theorem fX3_15 : rb_FL RX3 15 2 1 := ⟨_, rfl, by decide, Or.inl (List.mem_of_getElem? (i := 98) (by decide +kernel))⟩
theorem fX3_18 : rb_FL RX3 18 2 2 := ⟨_, rfl, by decide, Or.inl (List.mem_of_getElem? (i := 101) (by decide +kernel))⟩
theorem fX3_21 : rb_FL RX3 21 2 3 := ⟨_, rfl, by decide, Or.inl (List.mem_of_getElem? (i := 104) (by decide +kernel))⟩
theorem fX3_24 : rb_FL RX3 24 2 4 := ⟨_, rfl, by decide, Or.inl (List.mem_of_getElem? (i := 106) (by decide +kernel))⟩
theorem fX3_28 : rb_FL RX3 28 2 5 := ⟨_, rfl, by decide, Or.inl (List.mem_of_getElem? (i := 108) (by decide +kernel))⟩
theorem fX3_31 : rb_FL RX3 31 2 6 := ⟨_, rfl, by decide, Or.inl (List.mem_of_getElem? (i := 110) (by decide +kernel))⟩
theorem fX3_34 : rb_FL RX3 34 2 7 := ⟨_, rfl, by decide, Or.inl (List.mem_of_getElem? (i := 112) (by decide +kernel))⟩
theorem fX3_37 : rb_FL RX3 37 2 8 := ⟨_, rfl, by decide, Or.inl (List.mem_of_getElem? (i := 115) (by decide +kernel))⟩
theorem fX3_40 : rb_FL RX3 40 2 9 := ⟨_, rfl, by decide, Or.inl (List.mem_of_getElem? (i := 117) (by decide +kernel))⟩
theorem fX3_43 : rb_FL RX3 43 2 10 := ⟨_, rfl, by decide, Or.inl (List.mem_of_getElem? (i := 119) (by decide +kernel))⟩
theorem fX3_46 : rb_FL RX3 46 2 11 := ⟨_, rfl, by decide, Or.inl (List.mem_of_getElem? (i := 121) (by decide +kernel))⟩
theorem mX3_49 : Cond.methodLink RX3 49 ⟨"java/lang/System", "arraycopy", "(Ljava/lang/Object;ILjava/lang/Object;II)V"⟩ ∈ lw_tbl := List.mem_of_getElem? (i := 442) (by decide +kernel)
theorem mX3_55 : Cond.methodLink RX3 55 yX3_isFull ∈ lw_tbl := List.mem_of_getElem? (i := 281) (by decide +kernel)
theorem mX3_59 : Cond.methodLink RX3 59 yX0_eats ∈ lw_tbl := List.mem_of_getElem? (i := 256) (by decide +kernel)
theorem mX3_65 : Cond.methodLink RX3 65 yX0_needs ∈ lw_tbl := List.mem_of_getElem? (i := 295) (by decide +kernel)
theorem mX3_69 : Cond.methodLink RX3 69 yX0_grows ∈ lw_tbl := List.mem_of_getElem? (i := 302) (by decide +kernel)
theorem mX3_72 : Cond.methodLink RX3 72 yX3_hasBedFree ∈ lw_tbl := List.mem_of_getElem? (i := 334) (by decide +kernel)
theorem mX3_76 : Cond.methodLink RX3 76 yX3_isTrue ∈ lw_tbl := List.mem_of_getElem? (i := 351) (by decide +kernel)
theorem mX3_79 : Cond.methodLink RX3 79 yX3_needsOf ∈ lw_tbl := List.mem_of_getElem? (i := 352) (by decide +kernel)
theorem mX3_83 : Cond.methodLink RX3 83 yX3_wouldTake ∈ lw_tbl := List.mem_of_getElem? (i := 353) (by decide +kernel)
theorem mX3_87 : Cond.methodLink RX3 87 yJ9_min_7cf53 ∈ lw_tbl := List.mem_of_getElem? (i := 366) (by decide +kernel)
theorem mX3_92 : Cond.methodLink RX3 92 yX3_lodge ∈ lw_tbl := List.mem_of_getElem? (i := 369) (by decide +kernel)
theorem mX3_96 : Cond.methodLink RX3 96 yX3_passDay ∈ lw_tbl := List.mem_of_getElem? (i := 390) (by decide +kernel)
theorem mX3_99 : Cond.methodLink RX3 99 yX3_feedOne ∈ lw_tbl := List.mem_of_getElem? (i := 394) (by decide +kernel)
theorem mX3_103 : Cond.methodLink RX3 103 yX3_makeThird ∈ lw_tbl := List.mem_of_getElem? (i := 399) (by decide +kernel)
theorem mX3_106 : Cond.methodLink RX3 106 yX3_hostFor ∈ lw_tbl := List.mem_of_getElem? (i := 412) (by decide +kernel)
theorem mX3_109 : Cond.methodLink RX3 109 yX3_eatsOf ∈ lw_tbl := List.mem_of_getElem? (i := 252) (by decide +kernel)
theorem mX3_112 : Cond.methodLink RX3 112 yX3_growsOf ∈ lw_tbl := List.mem_of_getElem? (i := 398) (by decide +kernel)
theorem mX3_115 : Cond.methodLink RX3 115 yX3_pairedEvent ∈ lw_tbl := List.mem_of_getElem? (i := 403) (by decide +kernel)
theorem mX3_118 : Cond.methodLink RX3 118 yX3_isOnRoad ∈ lw_tbl := List.mem_of_getElem? (i := 407) (by decide +kernel)
theorem mX3_121 : Cond.methodLink RX3 121 yX3_addOne ∈ lw_tbl := List.mem_of_getElem? (i := 411) (by decide +kernel)
theorem mX3_124 : Cond.methodLink RX3 124 yX3_eatenIn ∈ lw_tbl := List.mem_of_getElem? (i := 433) (by decide +kernel)
theorem mX3_127 : Cond.methodLink RX3 127 yJ9_max_7cf53 ∈ lw_tbl := List.mem_of_getElem? (i := 428) (by decide +kernel)
theorem mL_13 : Cond.methodLink RL 13 yX4_house ∈ lw_tbl := List.mem_of_getElem? (i := 218) (by decide +kernel)
theorem mL_17 : Cond.methodLink RL 17 yX5_house ∈ lw_tbl := List.mem_of_getElem? (i := 765) (by decide +kernel)
theorem mL_18 : Cond.methodLink RL 18 yX4_houseOf ∈ lw_tbl := List.mem_of_getElem? (i := 236) (by decide +kernel)
theorem mL_22 : Cond.methodLink RL 22 yX5_houseOf ∈ lw_tbl := List.mem_of_getElem? (i := 789) (by decide +kernel)
theorem mL_23 : Cond.methodLink RL 23 yX4_rumour ∈ lw_tbl := List.mem_of_getElem? (i := 262) (by decide +kernel)
theorem mL_26 : Cond.methodLink RL 26 yX5_rumour ∈ lw_tbl := List.mem_of_getElem? (i := 821) (by decide +kernel)
theorem mL_27 : Cond.methodLink RL 27 yX4_of ∈ lw_tbl := List.mem_of_getElem? (i := 282) (by decide +kernel)
theorem mL_30 : Cond.methodLink RL 30 yX5_of ∈ lw_tbl := List.mem_of_getElem? (i := 837) (by decide +kernel)
theorem mL_31 : Cond.methodLink RL 31 yX4_set ∈ lw_tbl := List.mem_of_getElem? (i := 305) (by decide +kernel)
theorem mL_34 : Cond.methodLink RL 34 yX5_set ∈ lw_tbl := List.mem_of_getElem? (i := 853) (by decide +kernel)
theorem mL_35 : Cond.methodLink RL 35 yX4_turn ∈ lw_tbl := List.mem_of_getElem? (i := 312) (by decide +kernel)
theorem mL_38 : Cond.methodLink RL 38 yX5_turn ∈ lw_tbl := List.mem_of_getElem? (i := 858) (by decide +kernel)
theorem mL_39 : Cond.methodLink RL 39 yX4_as ∈ lw_tbl := List.mem_of_getElem? (i := 316) (by decide +kernel)
theorem mL_42 : Cond.methodLink RL 42 yX5_as ∈ lw_tbl := List.mem_of_getElem? (i := 862) (by decide +kernel)
theorem mL_43 : Cond.methodLink RL 43 yX4_takes ∈ lw_tbl := List.mem_of_getElem? (i := 326) (by decide +kernel)
theorem mL_46 : Cond.methodLink RL 46 yX5_takes ∈ lw_tbl := List.mem_of_getElem? (i := 870) (by decide +kernel)
theorem mL_47 : Cond.methodLink RL 47 yX4_comeIn ∈ lw_tbl := List.mem_of_getElem? (i := 338) (by decide +kernel)
theorem mL_51 : Cond.methodLink RL 51 yX5_comeIn ∈ lw_tbl := List.mem_of_getElem? (i := 885) (by decide +kernel)
theorem mL_52 : Cond.methodLink RL 52 yX4_improve ∈ lw_tbl := List.mem_of_getElem? (i := 358) (by decide +kernel)
theorem mL_55 : Cond.methodLink RL 55 yX5_improve ∈ lw_tbl := List.mem_of_getElem? (i := 898) (by decide +kernel)
theorem mL_56 : Cond.methodLink RL 56 yX4_comesTrue ∈ lw_tbl := List.mem_of_getElem? (i := 370) (by decide +kernel)
theorem mL_59 : Cond.methodLink RL 59 yX5_comesTrue ∈ lw_tbl := List.mem_of_getElem? (i := 910) (by decide +kernel)
theorem mL_60 : Cond.methodLink RL 60 yX4_forget ∈ lw_tbl := List.mem_of_getElem? (i := 378) (by decide +kernel)
theorem mL_63 : Cond.methodLink RL 63 yX5_forget ∈ lw_tbl := List.mem_of_getElem? (i := 918) (by decide +kernel)
theorem mL_64 : Cond.methodLink RL 64 yX4_days ∈ lw_tbl := List.mem_of_getElem? (i := 382) (by decide +kernel)
theorem mL_67 : Cond.methodLink RL 67 yX5_days ∈ lw_tbl := List.mem_of_getElem? (i := 922) (by decide +kernel)
theorem mL_68 : Cond.methodLink RL 68 yX4_now ∈ lw_tbl := List.mem_of_getElem? (i := 413) (by decide +kernel)
theorem mL_71 : Cond.methodLink RL 71 yX5_now ∈ lw_tbl := List.mem_of_getElem? (i := 951) (by decide +kernel)
theorem mL_72 : Cond.methodLink RL 72 yX4_on ∈ lw_tbl := List.mem_of_getElem? (i := 434) (by decide +kernel)
theorem mL_75 : Cond.methodLink RL 75 yX5_on ∈ lw_tbl := List.mem_of_getElem? (i := 971) (by decide +kernel)
theorem mL_76 : Cond.methodLink RL 76 yX4_larder ∈ lw_tbl := List.mem_of_getElem? (i := 445) (by decide +kernel)
theorem mL_79 : Cond.methodLink RL 79 yX5_larder ∈ lw_tbl := List.mem_of_getElem? (i := 990) (by decide +kernel)
theorem mL_80 : Cond.methodLink RL 80 yX4_empty ∈ lw_tbl := List.mem_of_getElem? (i := 449) (by decide +kernel)
theorem mL_83 : Cond.methodLink RL 83 yX5_empty ∈ lw_tbl := List.mem_of_getElem? (i := 994) (by decide +kernel)
theorem mL_84 : Cond.methodLink RL 84 yX4_many ∈ lw_tbl := List.mem_of_getElem? (i := 455) (by decide +kernel)
theorem mL_87 : Cond.methodLink RL 87 yX5_many ∈ lw_tbl := List.mem_of_getElem? (i := 1003) (by decide +kernel)
theorem mL_88 : Cond.methodLink RL 88 yX4_out ∈ lw_tbl := List.mem_of_getElem? (i := 459) (by decide +kernel)
theorem mL_91 : Cond.methodLink RL 91 yX5_out ∈ lw_tbl := List.mem_of_getElem? (i := 1007) (by decide +kernel)
theorem mL_92 : Cond.methodLink RL 92 yX4_fewest ∈ lw_tbl := List.mem_of_getElem? (i := 463) (by decide +kernel)
theorem mL_95 : Cond.methodLink RL 95 yX5_fewest ∈ lw_tbl := List.mem_of_getElem? (i := 1011) (by decide +kernel)
theorem mL_96 : Cond.methodLink RL 96 yX4_least ∈ lw_tbl := List.mem_of_getElem? (i := 467) (by decide +kernel)
theorem mL_99 : Cond.methodLink RL 99 yX5_least ∈ lw_tbl := List.mem_of_getElem? (i := 1019) (by decide +kernel)
theorem mL_100 : Cond.methodLink RL 100 yX4_best ∈ lw_tbl := List.mem_of_getElem? (i := 471) (by decide +kernel)
theorem mL_103 : Cond.methodLink RL 103 yX5_best ∈ lw_tbl := List.mem_of_getElem? (i := 1023) (by decide +kernel)
theorem mL_104 : Cond.methodLink RL 104 yX4_lean ∈ lw_tbl := List.mem_of_getElem? (i := 475) (by decide +kernel)
theorem mL_107 : Cond.methodLink RL 107 yX5_lean ∈ lw_tbl := List.mem_of_getElem? (i := 1030) (by decide +kernel)
theorem mL_108 : Cond.methodLink RL 108 yX4_leanFor ∈ lw_tbl := List.mem_of_getElem? (i := 480) (by decide +kernel)
theorem mL_111 : Cond.methodLink RL 111 yX5_leanFor ∈ lw_tbl := List.mem_of_getElem? (i := 1034) (by decide +kernel)
theorem mL_112 : Cond.methodLink RL 112 yX4_kind ∈ lw_tbl := List.mem_of_getElem? (i := 484) (by decide +kernel)
theorem mL_115 : Cond.methodLink RL 115 yX5_kind ∈ lw_tbl := List.mem_of_getElem? (i := 1038) (by decide +kernel)
theorem mL_116 : Cond.methodLink RL 116 yX4_host ∈ lw_tbl := List.mem_of_getElem? (i := 489) (by decide +kernel)
theorem mL_119 : Cond.methodLink RL 119 yX5_host ∈ lw_tbl := List.mem_of_getElem? (i := 1042) (by decide +kernel)
theorem mL_120 : Cond.methodLink RL 120 yX4_beds ∈ lw_tbl := List.mem_of_getElem? (i := 493) (by decide +kernel)
theorem mL_123 : Cond.methodLink RL 123 yX5_beds ∈ lw_tbl := List.mem_of_getElem? (i := 1046) (by decide +kernel)
theorem mL_124 : Cond.methodLink RL 124 yX4_feed ∈ lw_tbl := List.mem_of_getElem? (i := 497) (by decide +kernel)
theorem mL_127 : Cond.methodLink RL 127 yX5_feed ∈ lw_tbl := List.mem_of_getElem? (i := 1050) (by decide +kernel)
theorem mL_128 : Cond.methodLink RL 128 yX4_wipe ∈ lw_tbl := List.mem_of_getElem? (i := 505) (by decide +kernel)
theorem mL_132 : Cond.methodLink RL 132 yX5_wipe ∈ lw_tbl := List.mem_of_getElem? (i := 1055) (by decide +kernel)
theorem mL_133 : Cond.methodLink RL 133 yX4_town ∈ lw_tbl := List.mem_of_getElem? (i := 509) (by decide +kernel)
theorem mL_136 : Cond.methodLink RL 136 yX5_town ∈ lw_tbl := List.mem_of_getElem? (i := 1059) (by decide +kernel)
theorem mL_137 : Cond.methodLink RL 137 yX4_sheet ∈ lw_tbl := List.mem_of_getElem? (i := 632) (by decide +kernel)
theorem mL_140 : Cond.methodLink RL 140 yX5_sheet ∈ lw_tbl := List.mem_of_getElem? (i := 1141) (by decide +kernel)
theorem kL_141 : Cond.constantLong RL 141 (4294967295) ∈ lw_tbl := List.mem_of_getElem? (i := 1211) (by decide +kernel)
theorem mL_143 : Cond.methodLink RL 143 yX4_write ∈ lw_tbl := List.mem_of_getElem? (i := 644) (by decide +kernel)
theorem mL_147 : Cond.methodLink RL 147 yX5_write ∈ lw_tbl := List.mem_of_getElem? (i := 1149) (by decide +kernel)
theorem mL_148 : Cond.methodLink RL 148 yX4_copy ∈ lw_tbl := List.mem_of_getElem? (i := 657) (by decide +kernel)
theorem mL_152 : Cond.methodLink RL 152 yX5_copy ∈ lw_tbl := List.mem_of_getElem? (i := 1161) (by decide +kernel)
theorem mL_153 : Cond.methodLink RL 153 yX4_lays ∈ lw_tbl := List.mem_of_getElem? (i := 666) (by decide +kernel)
theorem mL_156 : Cond.methodLink RL 156 yX5_lays ∈ lw_tbl := List.mem_of_getElem? (i := 1165) (by decide +kernel)
theorem mL_157 : Cond.methodLink RL 157 yX4_book ∈ lw_tbl := List.mem_of_getElem? (i := 671) (by decide +kernel)
theorem mL_160 : Cond.methodLink RL 160 yX5_book ∈ lw_tbl := List.mem_of_getElem? (i := 1169) (by decide +kernel)
theorem mL_161 : Cond.methodLink RL 161 yX4_read ∈ lw_tbl := List.mem_of_getElem? (i := 679) (by decide +kernel)
theorem mL_164 : Cond.methodLink RL 164 yX5_read ∈ lw_tbl := List.mem_of_getElem? (i := 1177) (by decide +kernel)
theorem mL_165 : Cond.methodLink RL 165 yX4_image ∈ lw_tbl := List.mem_of_getElem? (i := 687) (by decide +kernel)
theorem mL_168 : Cond.methodLink RL 168 yX5_image ∈ lw_tbl := List.mem_of_getElem? (i := 1185) (by decide +kernel)
theorem mL_169 : Cond.methodLink RL 169 yX4_undo ∈ lw_tbl := List.mem_of_getElem? (i := 691) (by decide +kernel)
theorem mL_172 : Cond.methodLink RL 172 yX5_undo ∈ lw_tbl := List.mem_of_getElem? (i := 1189) (by decide +kernel)
theorem mL_173 : Cond.methodLink RL 173 yX4_tear ∈ lw_tbl := List.mem_of_getElem? (i := 695) (by decide +kernel)
theorem mL_176 : Cond.methodLink RL 176 yX5_tear ∈ lw_tbl := List.mem_of_getElem? (i := 1193) (by decide +kernel)
theorem mL_177 : Cond.methodLink RL 177 yX4_count ∈ lw_tbl := List.mem_of_getElem? (i := 699) (by decide +kernel)
theorem mL_180 : Cond.methodLink RL 180 yX5_count ∈ lw_tbl := List.mem_of_getElem? (i := 1197) (by decide +kernel)
theorem mL_181 : Cond.methodLink RL 181 yX4_status ∈ lw_tbl := List.mem_of_getElem? (i := 703) (by decide +kernel)
theorem mL_184 : Cond.methodLink RL 184 yX5_status ∈ lw_tbl := List.mem_of_getElem? (i := 1205) (by decide +kernel)
theorem gX1_0 : rb_FP 0 0 .int := ⟨_, rfl, rfl, by decide +kernel⟩
theorem gX1_1 : rb_FP 0 1 .int := ⟨_, rfl, rfl, by decide +kernel⟩
theorem gX2_1 : rb_FP 1 1 .int := ⟨_, rfl, rfl, by decide +kernel⟩
theorem gX2_2 : rb_FP 1 2 .int := ⟨_, rfl, rfl, by decide +kernel⟩
theorem gX2_3 : rb_FP 1 3 .int := ⟨_, rfl, rfl, by decide +kernel⟩
theorem gX2_4 : rb_FP 1 4 .int := ⟨_, rfl, rfl, by decide +kernel⟩
theorem gX2_5 : rb_FP 1 5 .int := ⟨_, rfl, rfl, by decide +kernel⟩
theorem gX3_4 : rb_FP 2 4 .int := ⟨_, rfl, rfl, by decide +kernel⟩
theorem gX3_10 : rb_FP 2 10 .int := ⟨_, rfl, rfl, by decide +kernel⟩
theorem gX3_11 : rb_FP 2 11 .int := ⟨_, rfl, rfl, by decide +kernel⟩
theorem gX4_3 : rb_FP 3 3 .boolean := ⟨_, rfl, rfl, by decide +kernel⟩
theorem gX5_5 : rb_FP 4 5 .boolean := ⟨_, rfl, rfl, by decide +kernel⟩
theorem gX5_7 : rb_FP 4 7 .int := ⟨_, rfl, rfl, by decide +kernel⟩
theorem gX5_8 : rb_FP 4 8 .int := ⟨_, rfl, rfl, by decide +kernel⟩
theorem gX5_9 : rb_FP 4 9 .int := ⟨_, rfl, rfl, by decide +kernel⟩
theorem gX5_10 : rb_FP 4 10 .int := ⟨_, rfl, rfl, by decide +kernel⟩
theorem gX5_11 : rb_FP 4 11 .boolean := ⟨_, rfl, rfl, by decide +kernel⟩
/-- an object of the heap: its class, its fields' sorts -/
def rb_ob (o ci : Nat) (F : List Nat) (C : String) : Prop := (o, 0) ∈ rb_ids ∧ rb_ci o = ci ∧ rb_fk o = F ∧ rb_cn o = C
def rb_ar (o j a n : Nat) : Prop := (o, j + 1) ∈ rb_ids ∧ rb_ak o j = (a, n)
theorem rb_obT {t : Nat} (ht : t < 3) : rb_ob t 2 [1,1,1,1,0,1,1,1,1,1,0,0] RX3 := by
  rcases (show t = 0 ∨ t = 1 ∨ t = 2 by omega) with rfl | rfl | rfl <;> exact ⟨by decide, rfl, rfl, rfl⟩
theorem rb_ob3 : rb_ob 3 1 [1,0,0,0,0,0] RX2 := ⟨by decide, rfl, rfl, rfl⟩
theorem rb_obS {q : Nat} (hq : q < 4) : rb_ob (4 + q) 0 [0,0,1] RX1 := by
  rcases (show q = 0 ∨ q = 1 ∨ q = 2 ∨ q = 3 by omega) with rfl | rfl | rfl | rfl <;> exact ⟨by decide, rfl, rfl, rfl⟩
theorem rb_ob8 : rb_ob 8 3 [2,3,4,0,5,1,1] RX4 := ⟨by decide, rfl, rfl, rfl⟩
theorem rb_ob9 : rb_ob 9 4 [1,1,1,1,1,0,1,0,0,0,0,0,1,1,1,1] RX5 := ⟨by decide, rfl, rfl, rfl⟩
theorem rb_arT0 {t : Nat} (ht : t < 3) : rb_ar t 0 0 8 := by
  rcases (show t = 0 ∨ t = 1 ∨ t = 2 by omega) with rfl | rfl | rfl <;> exact ⟨by decide, rfl⟩
theorem rb_arT1 {t : Nat} (ht : t < 3) : rb_ar t 1 0 8 := by
  rcases (show t = 0 ∨ t = 1 ∨ t = 2 by omega) with rfl | rfl | rfl <;> exact ⟨by decide, rfl⟩
theorem rb_arT2 {t : Nat} (ht : t < 3) : rb_ar t 2 0 8 := by
  rcases (show t = 0 ∨ t = 1 ∨ t = 2 by omega) with rfl | rfl | rfl <;> exact ⟨by decide, rfl⟩
theorem rb_arT3 {t : Nat} (ht : t < 3) : rb_ar t 3 0 8 := by
  rcases (show t = 0 ∨ t = 1 ∨ t = 2 by omega) with rfl | rfl | rfl <;> exact ⟨by decide, rfl⟩
theorem rb_arT5 {t : Nat} (ht : t < 3) : rb_ar t 5 0 10 := by
  rcases (show t = 0 ∨ t = 1 ∨ t = 2 by omega) with rfl | rfl | rfl <;> exact ⟨by decide, rfl⟩
theorem rb_arT6 {t : Nat} (ht : t < 3) : rb_ar t 6 0 10 := by
  rcases (show t = 0 ∨ t = 1 ∨ t = 2 by omega) with rfl | rfl | rfl <;> exact ⟨by decide, rfl⟩
theorem rb_arT7 {t : Nat} (ht : t < 3) : rb_ar t 7 0 10 := by
  rcases (show t = 0 ∨ t = 1 ∨ t = 2 by omega) with rfl | rfl | rfl <;> exact ⟨by decide, rfl⟩
theorem rb_arT8 {t : Nat} (ht : t < 3) : rb_ar t 8 0 10 := by
  rcases (show t = 0 ∨ t = 1 ∨ t = 2 by omega) with rfl | rfl | rfl <;> exact ⟨by decide, rfl⟩
theorem rb_arT9 {t : Nat} (ht : t < 3) : rb_ar t 9 0 10 := by
  rcases (show t = 0 ∨ t = 1 ∨ t = 2 by omega) with rfl | rfl | rfl <;> exact ⟨by decide, rfl⟩
theorem rb_arS2 {q : Nat} (hq : q < 4) : rb_ar (4 + q) 2 1 40 := by
  rcases (show q = 0 ∨ q = 1 ∨ q = 2 ∨ q = 3 by omega) with rfl | rfl | rfl | rfl <;> exact ⟨by decide, rfl⟩
theorem rb_ar3_0 : rb_ar 3 0 0 120 := ⟨by decide, rfl⟩
theorem rb_ar8_6 : rb_ar 8 6 0 7 := ⟨by decide, rfl⟩
theorem rb_ar9_0 : rb_ar 9 0 0 77 := ⟨by decide, rfl⟩
theorem rb_ar9_1 : rb_ar 9 1 0 77 := ⟨by decide, rfl⟩
theorem rb_ar9_2 : rb_ar 9 2 0 77 := ⟨by decide, rfl⟩
theorem rb_ar9_3 : rb_ar 9 3 0 77 := ⟨by decide, rfl⟩
theorem rb_ar9_4 : rb_ar 9 4 0 7 := ⟨by decide, rfl⟩
theorem rb_ar9_6 : rb_ar 9 6 0 120 := ⟨by decide, rfl⟩
theorem rb_ar9_12 : rb_ar 9 12 0 4 := ⟨by decide, rfl⟩
theorem rb_ar9_13 : rb_ar 9 13 0 4 := ⟨by decide, rfl⟩
theorem rb_ar9_14 : rb_ar 9 14 1 160 := ⟨by decide, rfl⟩
theorem rb_ar9_15 : rb_ar 9 15 1 40 := ⟨by decide, rfl⟩
