set_option maxRecDepth 100000 in
theorem m377 : Cond.instanceMethod yX1_has ∈ TB := TB_mem 377 (by rfl) (by rfl)
set_option maxRecDepth 100000 in
theorem m378 : Cond.selects RX1 yX1_has yX1_has ∈ TB := TB_mem 378 (by rfl) (by rfl)
set_option maxRecDepth 100000 in
theorem m379 : Cond.code yX1_has cX1_has 2 (some .boolean) ∈ TB := TB_mem 379 (by rfl) (by rfl)
set_option maxRecDepth 100000 in
theorem m380 : Cond.methodLink RX1 55 yX1_takesRight ∈ TB := TB_mem 380 (by rfl) (by rfl)
set_option maxRecDepth 100000 in
theorem m381 : Cond.static yX1_takesRight ∈ TB := TB_mem 381 (by rfl) (by rfl)
set_option maxRecDepth 100000 in
theorem m382 : Cond.code yX1_takesRight cX1_takesRight 1 (some .boolean) ∈ TB := TB_mem 382 (by rfl) (by rfl)
set_option maxRecDepth 100000 in
theorem m383 : Cond.methodLink RX1 58 yX1_takesMember ∈ TB := TB_mem 383 (by rfl) (by rfl)
set_option maxRecDepth 100000 in
theorem m384 : Cond.static yX1_takesMember ∈ TB := TB_mem 384 (by rfl) (by rfl)
set_option maxRecDepth 100000 in
theorem m385 : Cond.code yX1_takesMember cX1_takesMember 1 (some .boolean) ∈ TB := TB_mem 385 (by rfl) (by rfl)
set_option maxRecDepth 100000 in
theorem m387 : Cond.methodLink RX1 66 yX1_isValue ∈ TB := TB_mem 387 (by rfl) (by rfl)
set_option maxRecDepth 100000 in
theorem m389 : Cond.instanceMethod yX1_isValue ∈ TB := TB_mem 389 (by rfl) (by rfl)
set_option maxRecDepth 100000 in
theorem m390 : Cond.code yX1_isValue cX1_isValue 4 (some .boolean) ∈ TB := TB_mem 390 (by rfl) (by rfl)
set_option maxRecDepth 100000 in
theorem m391 : Cond.methodLink RX1 70 yX0_has ∈ TB := TB_mem 391 (by rfl) (by rfl)
set_option maxRecDepth 100000 in
theorem m393 : Cond.static yX5_isSet ∈ TB := TB_mem 393 (by rfl) (by rfl)
set_option maxRecDepth 100000 in
theorem m394 : Cond.code yX5_isSet cX5_isSet 1 (some .boolean) ∈ TB := TB_mem 394 (by rfl) (by rfl)
set_option maxRecDepth 100000 in
theorem m395 : Cond.methodLink RX5 91 yX1_hasRoom ∈ TB := TB_mem 395 (by rfl) (by rfl)
set_option maxRecDepth 100000 in
theorem m396 : Cond.instanceMethod yX1_hasRoom ∈ TB := TB_mem 396 (by rfl) (by rfl)
set_option maxRecDepth 100000 in
theorem m397 : Cond.selects RX1 yX1_hasRoom yX1_hasRoom ∈ TB := TB_mem 397 (by rfl) (by rfl)
set_option maxRecDepth 100000 in
theorem m398 : Cond.code yX1_hasRoom cX1_hasRoom 2 (some .boolean) ∈ TB := TB_mem 398 (by rfl) (by rfl)
set_option maxRecDepth 100000 in
theorem m399 : Cond.methodLink RX5 94 yX1_boundOf ∈ TB := TB_mem 399 (by rfl) (by rfl)
set_option maxRecDepth 100000 in
theorem m400 : Cond.instanceMethod yX1_boundOf ∈ TB := TB_mem 400 (by rfl) (by rfl)
set_option maxRecDepth 100000 in
theorem m401 : Cond.selects RX1 yX1_boundOf yX1_boundOf ∈ TB := TB_mem 401 (by rfl) (by rfl)
set_option maxRecDepth 100000 in
theorem m402 : Cond.code yX1_boundOf cX1_boundOf 5 (some .int) ∈ TB := TB_mem 402 (by rfl) (by rfl)
set_option maxRecDepth 100000 in
theorem m403 : Cond.methodLink RX1 76 Lib.Math.min.name ∈ TB := TB_mem 403 (by rfl) (by rfl)
set_option maxRecDepth 100000 in
theorem m404 : Cond.static Lib.Math.min.name ∈ TB := TB_mem 404 (by rfl) (by rfl)
set_option maxRecDepth 100000 in
theorem m405 : Cond.code Lib.Math.min.name Lib.Math.min.code 2 (some .int) ∈ TB := TB_mem 405 (by rfl) (by rfl)
set_option maxRecDepth 100000 in
theorem m406 : Cond.methodLink RX5 97 yX1_add ∈ TB := TB_mem 406 (by rfl) (by rfl)
set_option maxRecDepth 100000 in
theorem m407 : Cond.instanceMethod yX1_add ∈ TB := TB_mem 407 (by rfl) (by rfl)
set_option maxRecDepth 100000 in
theorem m408 : Cond.selects RX1 yX1_add yX1_add ∈ TB := TB_mem 408 (by rfl) (by rfl)
set_option maxRecDepth 100000 in
theorem m409 : Cond.code yX1_add cX1_add 7 (some .int) ∈ TB := TB_mem 409 (by rfl) (by rfl)
set_option maxRecDepth 100000 in
theorem m410 : Cond.methodLink RX1 86 yX1_write ∈ TB := TB_mem 410 (by rfl) (by rfl)
set_option maxRecDepth 100000 in
theorem m411 : Cond.instanceMethod yX1_write ∈ TB := TB_mem 411 (by rfl) (by rfl)
set_option maxRecDepth 100000 in
theorem m412 : Cond.selects RX1 yX1_write yX1_write ∈ TB := TB_mem 412 (by rfl) (by rfl)
set_option maxRecDepth 100000 in
theorem m413 : Cond.code yX1_write cX1_write 7 none ∈ TB := TB_mem 413 (by rfl) (by rfl)
set_option maxRecDepth 100000 in
theorem m414 : Cond.methodLink RX1 90 yX1_boundOf ∈ TB := TB_mem 414 (by rfl) (by rfl)
set_option maxRecDepth 100000 in
theorem m415 : Cond.methodLink RX1 94 yX1_failsOf ∈ TB := TB_mem 415 (by rfl) (by rfl)
set_option maxRecDepth 100000 in
theorem m417 : Cond.instanceMethod yX1_failsOf ∈ TB := TB_mem 417 (by rfl) (by rfl)
set_option maxRecDepth 100000 in
theorem m418 : Cond.code yX1_failsOf cX1_failsOf 5 (some .boolean) ∈ TB := TB_mem 418 (by rfl) (by rfl)
set_option maxRecDepth 100000 in
theorem m419 : Cond.methodLink RX1 82 yX1_takesFormula ∈ TB := TB_mem 419 (by rfl) (by rfl)
set_option maxRecDepth 100000 in
theorem m420 : Cond.static yX1_takesFormula ∈ TB := TB_mem 420 (by rfl) (by rfl)
set_option maxRecDepth 100000 in
theorem m421 : Cond.code yX1_takesFormula cX1_takesFormula 1 (some .boolean) ∈ TB := TB_mem 421 (by rfl) (by rfl)
set_option maxRecDepth 100000 in
theorem m422 : Cond.methodLink RX1 98 yX1_takesValue ∈ TB := TB_mem 422 (by rfl) (by rfl)
set_option maxRecDepth 100000 in
theorem m423 : Cond.static yX1_takesValue ∈ TB := TB_mem 423 (by rfl) (by rfl)
set_option maxRecDepth 100000 in
theorem m424 : Cond.code yX1_takesValue cX1_takesValue 1 (some .boolean) ∈ TB := TB_mem 424 (by rfl) (by rfl)
set_option maxRecDepth 100000 in
theorem m425 : Cond.methodLink RL 42 yX5_told ∈ TB := TB_mem 425 (by rfl) (by rfl)
set_option maxRecDepth 100000 in
theorem m426 : Cond.instanceMethod yX5_told ∈ TB := TB_mem 426 (by rfl) (by rfl)
set_option maxRecDepth 100000 in
theorem m427 : Cond.selects RX5 yX5_told yX5_told ∈ TB := TB_mem 427 (by rfl) (by rfl)
set_option maxRecDepth 100000 in
theorem m428 : Cond.code yX5_told cX5_told 3 (some .int) ∈ TB := TB_mem 428 (by rfl) (by rfl)
set_option maxRecDepth 100000 in
theorem m429 : Cond.methodLink RX5 100 yX1_has ∈ TB := TB_mem 429 (by rfl) (by rfl)
set_option maxRecDepth 100000 in
theorem m430 : Cond.methodLink RL 46 yX5_run ∈ TB := TB_mem 430 (by rfl) (by rfl)
set_option maxRecDepth 100000 in
theorem m431 : Cond.instanceMethod yX5_run ∈ TB := TB_mem 431 (by rfl) (by rfl)
set_option maxRecDepth 100000 in
theorem m432 : Cond.selects RX5 yX5_run yX5_run ∈ TB := TB_mem 432 (by rfl) (by rfl)
set_option maxRecDepth 100000 in
theorem m433 : Cond.code yX5_run cX5_run 2 (some .int) ∈ TB := TB_mem 433 (by rfl) (by rfl)
set_option maxRecDepth 100000 in
theorem m434 : Cond.methodLink RX5 120 yX3_give ∈ TB := TB_mem 434 (by rfl) (by rfl)
set_option maxRecDepth 100000 in
theorem m435 : Cond.instanceMethod yX3_give ∈ TB := TB_mem 435 (by rfl) (by rfl)
set_option maxRecDepth 100000 in
theorem m436 : Cond.selects RX3 yX3_give yX3_give ∈ TB := TB_mem 436 (by rfl) (by rfl)
set_option maxRecDepth 100000 in
theorem m437 : Cond.code yX3_give cX3_give 5 (some .int) ∈ TB := TB_mem 437 (by rfl) (by rfl)
set_option maxRecDepth 100000 in
theorem m438 : Cond.methodLink RX3 51 yX1_listFrom ∈ TB := TB_mem 438 (by rfl) (by rfl)
set_option maxRecDepth 100000 in
theorem m439 : Cond.instanceMethod yX1_listFrom ∈ TB := TB_mem 439 (by rfl) (by rfl)
set_option maxRecDepth 100000 in
theorem m440 : Cond.selects RX1 yX1_listFrom yX1_listFrom ∈ TB := TB_mem 440 (by rfl) (by rfl)
set_option maxRecDepth 100000 in
theorem m441 : Cond.code yX1_listFrom cX1_listFrom 7 (some .int) ∈ TB := TB_mem 441 (by rfl) (by rfl)
set_option maxRecDepth 100000 in
theorem m442 : Cond.methodLink RX1 101 yJ7_fill_53178 ∈ TB := TB_mem 442 (by rfl) (by rfl)
set_option maxRecDepth 100000 in
theorem m443 : Cond.static yJ7_fill_53178 ∈ TB := TB_mem 443 (by rfl) (by rfl)
set_option maxRecDepth 100000 in
theorem m444 : Cond.code yJ7_fill_53178 cJ7_fill_53178 4 none ∈ TB := TB_mem 444 (by rfl) (by rfl)
set_option maxRecDepth 100000 in
theorem m445 : Cond.methodLink RX1 107 yX1_leftBelow ∈ TB := TB_mem 445 (by rfl) (by rfl)
set_option maxRecDepth 100000 in
theorem m447 : Cond.instanceMethod yX1_leftBelow ∈ TB := TB_mem 447 (by rfl) (by rfl)
set_option maxRecDepth 100000 in
theorem m448 : Cond.code yX1_leftBelow cX1_leftBelow 2 (some .int) ∈ TB := TB_mem 448 (by rfl) (by rfl)
set_option maxRecDepth 100000 in
theorem m449 : Cond.methodLink RX1 111 yX1_rightBelow ∈ TB := TB_mem 449 (by rfl) (by rfl)
set_option maxRecDepth 100000 in
theorem m451 : Cond.instanceMethod yX1_rightBelow ∈ TB := TB_mem 451 (by rfl) (by rfl)
set_option maxRecDepth 100000 in
theorem m452 : Cond.code yX1_rightBelow cX1_rightBelow 2 (some .int) ∈ TB := TB_mem 452 (by rfl) (by rfl)
set_option maxRecDepth 100000 in
theorem m453 : Cond.methodLink RX3 58 yX3_work ∈ TB := TB_mem 453 (by rfl) (by rfl)
set_option maxRecDepth 100000 in
theorem m455 : Cond.instanceMethod yX3_work ∈ TB := TB_mem 455 (by rfl) (by rfl)
set_option maxRecDepth 100000 in
theorem m456 : Cond.code yX3_work cX3_work 3 none ∈ TB := TB_mem 456 (by rfl) (by rfl)
set_option maxRecDepth 100000 in
theorem m457 : Cond.methodLink RX3 74 yX3_giveSource ∈ TB := TB_mem 457 (by rfl) (by rfl)
set_option maxRecDepth 100000 in
theorem m459 : Cond.instanceMethod yX3_giveSource ∈ TB := TB_mem 459 (by rfl) (by rfl)
set_option maxRecDepth 100000 in
theorem m460 : Cond.code yX3_giveSource cX3_giveSource 4 none ∈ TB := TB_mem 460 (by rfl) (by rfl)
set_option maxRecDepth 100000 in
theorem m461 : Cond.methodLink RX3 115 yX3_addEmpty ∈ TB := TB_mem 461 (by rfl) (by rfl)
set_option maxRecDepth 100000 in
theorem m463 : Cond.instanceMethod yX3_addEmpty ∈ TB := TB_mem 463 (by rfl) (by rfl)
set_option maxRecDepth 100000 in
theorem m464 : Cond.code yX3_addEmpty cX3_addEmpty 3 (some .int) ∈ TB := TB_mem 464 (by rfl) (by rfl)
set_option maxRecDepth 100000 in
theorem m465 : Cond.constant RX3 158 (36000) ∈ TB := TB_mem 465 (by rfl) (by rfl)
set_option maxRecDepth 100000 in
theorem m466 : Cond.methodLink RX3 147 Lib.Math.min.name ∈ TB := TB_mem 466 (by rfl) (by rfl)
set_option maxRecDepth 100000 in
theorem m467 : Cond.methodLink RX3 159 yJ7_copyOf_59c91 ∈ TB := TB_mem 467 (by rfl) (by rfl)
set_option maxRecDepth 100000 in
theorem m468 : Cond.static yJ7_copyOf_59c91 ∈ TB := TB_mem 468 (by rfl) (by rfl)
set_option maxRecDepth 100000 in
theorem m469 : Cond.code yJ7_copyOf_59c91 cJ7_copyOf_59c91 3 (some (.array .int)) ∈ TB := TB_mem 469 (by rfl) (by rfl)
set_option maxRecDepth 100000 in
theorem m477 : Cond.methodLink RJ7 304 Lib.Math.min.name ∈ TB := TB_mem 477 (by rfl) (by rfl)
set_option maxRecDepth 100000 in
theorem m478 : Cond.methodLink RJ7 150 arraycopyName ∈ TB := TB_mem 478 (by rfl) (by rfl)
set_option maxRecDepth 100000 in
theorem m479 : Cond.static arraycopyName ∈ TB := TB_mem 479 (by rfl) (by rfl)
set_option maxRecDepth 100000 in
theorem m480 : Cond.native arraycopyName ∈ TB := TB_mem 480 (by rfl) (by rfl)
set_option maxRecDepth 100000 in
theorem m481 : Cond.methodLink RX3 120 yX4_cellOf ∈ TB := TB_mem 481 (by rfl) (by rfl)
set_option maxRecDepth 100000 in
theorem m482 : Cond.methodLink RX3 124 arraycopyName ∈ TB := TB_mem 482 (by rfl) (by rfl)
set_option maxRecDepth 100000 in
theorem m483 : Cond.methodLink RX3 80 yX3_giveFiltered ∈ TB := TB_mem 483 (by rfl) (by rfl)
set_option maxRecDepth 100000 in
theorem m485 : Cond.instanceMethod yX3_giveFiltered ∈ TB := TB_mem 485 (by rfl) (by rfl)
set_option maxRecDepth 100000 in
theorem m486 : Cond.code yX3_giveFiltered cX3_giveFiltered 5 none ∈ TB := TB_mem 486 (by rfl) (by rfl)
set_option maxRecDepth 100000 in
theorem m487 : Cond.methodLink RX3 130 yX3_valueOf ∈ TB := TB_mem 487 (by rfl) (by rfl)
set_option maxRecDepth 100000 in
theorem m489 : Cond.instanceMethod yX3_valueOf ∈ TB := TB_mem 489 (by rfl) (by rfl)
set_option maxRecDepth 100000 in
theorem m490 : Cond.code yX3_valueOf cX3_valueOf 4 (some .int) ∈ TB := TB_mem 490 (by rfl) (by rfl)
set_option maxRecDepth 100000 in
theorem m491 : Cond.methodLink RX3 174 yX3_valueOfParts ∈ TB := TB_mem 491 (by rfl) (by rfl)
set_option maxRecDepth 100000 in
theorem m493 : Cond.instanceMethod yX3_valueOfParts ∈ TB := TB_mem 493 (by rfl) (by rfl)
set_option maxRecDepth 100000 in
theorem m494 : Cond.code yX3_valueOfParts cX3_valueOfParts 7 (some .int) ∈ TB := TB_mem 494 (by rfl) (by rfl)
set_option maxRecDepth 100000 in
theorem m495 : Cond.methodLink RX3 178 yX3_itemAt ∈ TB := TB_mem 495 (by rfl) (by rfl)
set_option maxRecDepth 100000 in
theorem m497 : Cond.instanceMethod yX3_itemAt ∈ TB := TB_mem 497 (by rfl) (by rfl)
set_option maxRecDepth 100000 in
theorem m498 : Cond.code yX3_itemAt cX3_itemAt 2 (some .int) ∈ TB := TB_mem 498 (by rfl) (by rfl)
set_option maxRecDepth 100000 in
theorem m499 : Cond.methodLink RX3 184 yX4_hasItem ∈ TB := TB_mem 499 (by rfl) (by rfl)
set_option maxRecDepth 100000 in
theorem m500 : Cond.methodLink RX3 181 yX3_valueOfPair ∈ TB := TB_mem 500 (by rfl) (by rfl)
set_option maxRecDepth 100000 in
theorem m502 : Cond.instanceMethod yX3_valueOfPair ∈ TB := TB_mem 502 (by rfl) (by rfl)
set_option maxRecDepth 100000 in
theorem m503 : Cond.code yX3_valueOfPair cX3_valueOfPair 4 (some .int) ∈ TB := TB_mem 503 (by rfl) (by rfl)
set_option maxRecDepth 100000 in
theorem m504 : Cond.methodLink RX3 133 yX3_addCopy ∈ TB := TB_mem 504 (by rfl) (by rfl)
set_option maxRecDepth 100000 in
theorem m506 : Cond.instanceMethod yX3_addCopy ∈ TB := TB_mem 506 (by rfl) (by rfl)
set_option maxRecDepth 100000 in
theorem m507 : Cond.code yX3_addCopy cX3_addCopy 3 (some .int) ∈ TB := TB_mem 507 (by rfl) (by rfl)
set_option maxRecDepth 100000 in
theorem m508 : Cond.methodLink RX3 87 yX3_giveSet ∈ TB := TB_mem 508 (by rfl) (by rfl)
set_option maxRecDepth 100000 in
theorem m510 : Cond.instanceMethod yX3_giveSet ∈ TB := TB_mem 510 (by rfl) (by rfl)
set_option maxRecDepth 100000 in
theorem m511 : Cond.code yX3_giveSet cX3_giveSet 7 none ∈ TB := TB_mem 511 (by rfl) (by rfl)
set_option maxRecDepth 100000 in
theorem m512 : Cond.methodLink RX3 91 yX3_giveKept ∈ TB := TB_mem 512 (by rfl) (by rfl)
set_option maxRecDepth 100000 in
theorem m514 : Cond.instanceMethod yX3_giveKept ∈ TB := TB_mem 514 (by rfl) (by rfl)
set_option maxRecDepth 100000 in
theorem m515 : Cond.code yX3_giveKept cX3_giveKept 5 none ∈ TB := TB_mem 515 (by rfl) (by rfl)
set_option maxRecDepth 100000 in
theorem m516 : Cond.methodLink RX3 136 yX3_copyMembers ∈ TB := TB_mem 516 (by rfl) (by rfl)
set_option maxRecDepth 100000 in
theorem m518 : Cond.instanceMethod yX3_copyMembers ∈ TB := TB_mem 518 (by rfl) (by rfl)
set_option maxRecDepth 100000 in
theorem m519 : Cond.code yX3_copyMembers cX3_copyMembers 5 none ∈ TB := TB_mem 519 (by rfl) (by rfl)
set_option maxRecDepth 100000 in
theorem m521 : Cond.static yX5_isIn ∈ TB := TB_mem 521 (by rfl) (by rfl)
set_option maxRecDepth 100000 in
theorem m522 : Cond.code yX5_isIn cX5_isIn 2 (some .boolean) ∈ TB := TB_mem 522 (by rfl) (by rfl)
set_option maxRecDepth 100000 in
theorem m523 : Cond.methodLink RX3 97 yX3_giveJoined ∈ TB := TB_mem 523 (by rfl) (by rfl)
set_option maxRecDepth 100000 in
theorem m525 : Cond.instanceMethod yX3_giveJoined ∈ TB := TB_mem 525 (by rfl) (by rfl)
set_option maxRecDepth 100000 in
theorem m526 : Cond.code yX3_giveJoined cX3_giveJoined 8 none ∈ TB := TB_mem 526 (by rfl) (by rfl)
set_option maxRecDepth 100000 in
theorem m527 : Cond.methodLink RX3 101 yX3_giveFirst ∈ TB := TB_mem 527 (by rfl) (by rfl)
set_option maxRecDepth 100000 in
theorem m529 : Cond.instanceMethod yX3_giveFirst ∈ TB := TB_mem 529 (by rfl) (by rfl)
set_option maxRecDepth 100000 in
theorem m530 : Cond.code yX3_giveFirst cX3_giveFirst 5 none ∈ TB := TB_mem 530 (by rfl) (by rfl)
set_option maxRecDepth 100000 in
theorem m531 : Cond.methodLink RX3 104 yX3_giveFolded ∈ TB := TB_mem 531 (by rfl) (by rfl)
set_option maxRecDepth 100000 in
theorem m533 : Cond.instanceMethod yX3_giveFolded ∈ TB := TB_mem 533 (by rfl) (by rfl)
set_option maxRecDepth 100000 in
theorem m534 : Cond.code yX3_giveFolded cX3_giveFolded 7 none ∈ TB := TB_mem 534 (by rfl) (by rfl)
set_option maxRecDepth 100000 in
theorem m535 : Cond.methodLink RX3 139 yX3_findMember ∈ TB := TB_mem 535 (by rfl) (by rfl)
set_option maxRecDepth 100000 in
theorem m537 : Cond.instanceMethod yX3_findMember ∈ TB := TB_mem 537 (by rfl) (by rfl)
set_option maxRecDepth 100000 in
theorem m538 : Cond.code yX3_findMember cX3_findMember 5 (some .int) ∈ TB := TB_mem 538 (by rfl) (by rfl)
set_option maxRecDepth 100000 in
theorem m539 : Cond.methodLink RX3 107 yX3_giveOnce ∈ TB := TB_mem 539 (by rfl) (by rfl)
set_option maxRecDepth 100000 in
theorem m541 : Cond.instanceMethod yX3_giveOnce ∈ TB := TB_mem 541 (by rfl) (by rfl)
set_option maxRecDepth 100000 in
theorem m542 : Cond.code yX3_giveOnce cX3_giveOnce 4 none ∈ TB := TB_mem 542 (by rfl) (by rfl)
set_option maxRecDepth 100000 in
theorem m543 : Cond.methodLink RX3 143 yX3_hasLike ∈ TB := TB_mem 543 (by rfl) (by rfl)
set_option maxRecDepth 100000 in
theorem m545 : Cond.instanceMethod yX3_hasLike ∈ TB := TB_mem 545 (by rfl) (by rfl)
set_option maxRecDepth 100000 in
theorem m546 : Cond.code yX3_hasLike cX3_hasLike 4 (some .boolean) ∈ TB := TB_mem 546 (by rfl) (by rfl)
set_option maxRecDepth 100000 in
theorem m547 : Cond.methodLink RX3 152 yX3_isLike ∈ TB := TB_mem 547 (by rfl) (by rfl)
set_option maxRecDepth 100000 in
theorem m549 : Cond.instanceMethod yX3_isLike ∈ TB := TB_mem 549 (by rfl) (by rfl)
set_option maxRecDepth 100000 in
theorem m550 : Cond.code yX3_isLike cX3_isLike 4 (some .boolean) ∈ TB := TB_mem 550 (by rfl) (by rfl)
set_option maxRecDepth 100000 in
theorem m551 : Cond.methodLink RL 50 yX5_member ∈ TB := TB_mem 551 (by rfl) (by rfl)
set_option maxRecDepth 100000 in
theorem m552 : Cond.instanceMethod yX5_member ∈ TB := TB_mem 552 (by rfl) (by rfl)
set_option maxRecDepth 100000 in
theorem m553 : Cond.selects RX5 yX5_member yX5_member ∈ TB := TB_mem 553 (by rfl) (by rfl)
set_option maxRecDepth 100000 in
theorem m554 : Cond.code yX5_member cX5_member 3 (some .int) ∈ TB := TB_mem 554 (by rfl) (by rfl)
set_option maxRecDepth 100000 in
theorem m555 : Cond.methodLink RX5 123 yX5_isMember ∈ TB := TB_mem 555 (by rfl) (by rfl)
set_option maxRecDepth 100000 in
theorem m556 : Cond.methodLink RX5 126 yX3_given ∈ TB := TB_mem 556 (by rfl) (by rfl)
set_option maxRecDepth 100000 in
theorem m557 : Cond.instanceMethod yX3_given ∈ TB := TB_mem 557 (by rfl) (by rfl)
set_option maxRecDepth 100000 in
theorem m558 : Cond.selects RX3 yX3_given yX3_given ∈ TB := TB_mem 558 (by rfl) (by rfl)
set_option maxRecDepth 100000 in
theorem m559 : Cond.code yX3_given cX3_given 3 (some .int) ∈ TB := TB_mem 559 (by rfl) (by rfl)
set_option maxRecDepth 100000 in
theorem m560 : Cond.methodLink RL 54 yX5_worked ∈ TB := TB_mem 560 (by rfl) (by rfl)
set_option maxRecDepth 100000 in
theorem m561 : Cond.instanceMethod yX5_worked ∈ TB := TB_mem 561 (by rfl) (by rfl)
set_option maxRecDepth 100000 in
theorem m562 : Cond.selects RX5 yX5_worked yX5_worked ∈ TB := TB_mem 562 (by rfl) (by rfl)
set_option maxRecDepth 100000 in
theorem m563 : Cond.code yX5_worked cX5_worked 2 (some .int) ∈ TB := TB_mem 563 (by rfl) (by rfl)
set_option maxRecDepth 100000 in
theorem m564 : Cond.methodLink RL 58 yX5_fits ∈ TB := TB_mem 564 (by rfl) (by rfl)
set_option maxRecDepth 100000 in
theorem m565 : Cond.instanceMethod yX5_fits ∈ TB := TB_mem 565 (by rfl) (by rfl)
set_option maxRecDepth 100000 in
theorem m566 : Cond.selects RX5 yX5_fits yX5_fits ∈ TB := TB_mem 566 (by rfl) (by rfl)
set_option maxRecDepth 100000 in
theorem m567 : Cond.code yX5_fits cX5_fits 3 (some .int) ∈ TB := TB_mem 567 (by rfl) (by rfl)
set_option maxRecDepth 100000 in
theorem m568 : Cond.methodLink RX5 143 yX2_has ∈ TB := TB_mem 568 (by rfl) (by rfl)
set_option maxRecDepth 100000 in
theorem m569 : Cond.instanceMethod yX2_has ∈ TB := TB_mem 569 (by rfl) (by rfl)
set_option maxRecDepth 100000 in
theorem m570 : Cond.selects RX2 yX2_has yX2_has ∈ TB := TB_mem 570 (by rfl) (by rfl)
set_option maxRecDepth 100000 in
theorem m571 : Cond.code yX2_has cX2_has 2 (some .boolean) ∈ TB := TB_mem 571 (by rfl) (by rfl)
set_option maxRecDepth 100000 in
theorem m572 : Cond.methodLink RX5 144 yX2_suits ∈ TB := TB_mem 572 (by rfl) (by rfl)
set_option maxRecDepth 100000 in
theorem m573 : Cond.instanceMethod yX2_suits ∈ TB := TB_mem 573 (by rfl) (by rfl)
set_option maxRecDepth 100000 in
theorem m574 : Cond.selects RX2 yX2_suits yX2_suits ∈ TB := TB_mem 574 (by rfl) (by rfl)
set_option maxRecDepth 100000 in
theorem m575 : Cond.code yX2_suits cX2_suits 4 (some .boolean) ∈ TB := TB_mem 575 (by rfl) (by rfl)
set_option maxRecDepth 100000 in
theorem m576 : Cond.fieldLink RX2 23 RX2 "UPPER" "[I" ∈ TB := TB_mem 576 (by rfl) (by rfl)
set_option maxRecDepth 100000 in
theorem m578 : Cond.fieldLink RX2 29 RX2 "LOWER" "[I" ∈ TB := TB_mem 578 (by rfl) (by rfl)
set_option maxRecDepth 100000 in
theorem m580 : Cond.methodLink RX2 35 yX2_suitsFilter ∈ TB := TB_mem 580 (by rfl) (by rfl)
set_option maxRecDepth 100000 in
theorem m582 : Cond.instanceMethod yX2_suitsFilter ∈ TB := TB_mem 582 (by rfl) (by rfl)
set_option maxRecDepth 100000 in
theorem m583 : Cond.code yX2_suitsFilter cX2_suitsFilter 8 (some .boolean) ∈ TB := TB_mem 583 (by rfl) (by rfl)
set_option maxRecDepth 100000 in
theorem m586 : Cond.static yX5_isWithin ∈ TB := TB_mem 586 (by rfl) (by rfl)
set_option maxRecDepth 100000 in
theorem m587 : Cond.code yX5_isWithin cX5_isWithin 2 (some .boolean) ∈ TB := TB_mem 587 (by rfl) (by rfl)
set_option maxRecDepth 100000 in
theorem m588 : Cond.methodLink RX2 39 yX2_suitsOther ∈ TB := TB_mem 588 (by rfl) (by rfl)
set_option maxRecDepth 100000 in
theorem m590 : Cond.instanceMethod yX2_suitsOther ∈ TB := TB_mem 590 (by rfl) (by rfl)
set_option maxRecDepth 100000 in
theorem m591 : Cond.code yX2_suitsOther cX2_suitsOther 8 (some .boolean) ∈ TB := TB_mem 591 (by rfl) (by rfl)
set_option maxRecDepth 100000 in
theorem m592 : Cond.methodLink RX2 67 yX2_isLikeJob ∈ TB := TB_mem 592 (by rfl) (by rfl)
set_option maxRecDepth 100000 in
theorem m594 : Cond.instanceMethod yX2_isLikeJob ∈ TB := TB_mem 594 (by rfl) (by rfl)
set_option maxRecDepth 100000 in
theorem m595 : Cond.code yX2_isLikeJob cX2_isLikeJob 3 (some .boolean) ∈ TB := TB_mem 595 (by rfl) (by rfl)
set_option maxRecDepth 100000 in
theorem m596 : Cond.methodLink RL 62 yX5_rewrite ∈ TB := TB_mem 596 (by rfl) (by rfl)
set_option maxRecDepth 100000 in
theorem m597 : Cond.instanceMethod yX5_rewrite ∈ TB := TB_mem 597 (by rfl) (by rfl)
set_option maxRecDepth 100000 in
theorem m598 : Cond.selects RX5 yX5_rewrite yX5_rewrite ∈ TB := TB_mem 598 (by rfl) (by rfl)
set_option maxRecDepth 100000 in
theorem m599 : Cond.code yX5_rewrite cX5_rewrite 3 (some .int) ∈ TB := TB_mem 599 (by rfl) (by rfl)
set_option maxRecDepth 100000 in
theorem m600 : Cond.methodLink RX5 148 yX2_hasRoom ∈ TB := TB_mem 600 (by rfl) (by rfl)
set_option maxRecDepth 100000 in
theorem m601 : Cond.instanceMethod yX2_hasRoom ∈ TB := TB_mem 601 (by rfl) (by rfl)
set_option maxRecDepth 100000 in
theorem m602 : Cond.selects RX2 yX2_hasRoom yX2_hasRoom ∈ TB := TB_mem 602 (by rfl) (by rfl)
set_option maxRecDepth 100000 in
theorem m603 : Cond.code yX2_hasRoom cX2_hasRoom 3 (some .boolean) ∈ TB := TB_mem 603 (by rfl) (by rfl)
set_option maxRecDepth 100000 in
theorem m604 : Cond.methodLink RX2 70 yX0_hasRoom ∈ TB := TB_mem 604 (by rfl) (by rfl)
set_option maxRecDepth 100000 in
theorem m605 : Cond.fieldLink RX2 73 RX2 "NEW_NODES" "[I" ∈ TB := TB_mem 605 (by rfl) (by rfl)
set_option maxRecDepth 100000 in
theorem m607 : Cond.methodLink RX2 76 yX1_hasRoom ∈ TB := TB_mem 607 (by rfl) (by rfl)
set_option maxRecDepth 100000 in
theorem m608 : Cond.methodLink RX5 150 yX2_apply ∈ TB := TB_mem 608 (by rfl) (by rfl)
set_option maxRecDepth 100000 in
theorem m609 : Cond.instanceMethod yX2_apply ∈ TB := TB_mem 609 (by rfl) (by rfl)
set_option maxRecDepth 100000 in
theorem m610 : Cond.selects RX2 yX2_apply yX2_apply ∈ TB := TB_mem 610 (by rfl) (by rfl)
set_option maxRecDepth 100000 in
theorem m611 : Cond.code yX2_apply cX2_apply 4 none ∈ TB := TB_mem 611 (by rfl) (by rfl)
set_option maxRecDepth 100000 in
theorem m612 : Cond.methodLink RX2 83 yX2_addLike ∈ TB := TB_mem 612 (by rfl) (by rfl)
set_option maxRecDepth 100000 in
theorem m614 : Cond.instanceMethod yX2_addLike ∈ TB := TB_mem 614 (by rfl) (by rfl)
set_option maxRecDepth 100000 in
theorem m615 : Cond.code yX2_addLike cX2_addLike 3 (some .int) ∈ TB := TB_mem 615 (by rfl) (by rfl)
set_option maxRecDepth 100000 in
theorem m616 : Cond.methodLink RX2 111 yX1_add ∈ TB := TB_mem 616 (by rfl) (by rfl)
set_option maxRecDepth 100000 in
theorem m617 : Cond.methodLink RX2 87 yX2_exchange ∈ TB := TB_mem 617 (by rfl) (by rfl)
set_option maxRecDepth 100000 in
theorem m619 : Cond.instanceMethod yX2_exchange ∈ TB := TB_mem 619 (by rfl) (by rfl)
set_option maxRecDepth 100000 in
theorem m620 : Cond.code yX2_exchange cX2_exchange 5 none ∈ TB := TB_mem 620 (by rfl) (by rfl)
set_option maxRecDepth 100000 in
theorem m621 : Cond.methodLink RX2 107 yX1_write ∈ TB := TB_mem 621 (by rfl) (by rfl)
set_option maxRecDepth 100000 in
theorem m622 : Cond.methodLink RX2 91 yX0_add ∈ TB := TB_mem 622 (by rfl) (by rfl)
set_option maxRecDepth 100000 in
theorem m623 : Cond.methodLink RX2 95 yX2_skip ∈ TB := TB_mem 623 (by rfl) (by rfl)
set_option maxRecDepth 100000 in
theorem m625 : Cond.instanceMethod yX2_skip ∈ TB := TB_mem 625 (by rfl) (by rfl)
set_option maxRecDepth 100000 in
theorem m626 : Cond.code yX2_skip cX2_skip 4 none ∈ TB := TB_mem 626 (by rfl) (by rfl)
set_option maxRecDepth 100000 in
theorem m627 : Cond.methodLink RX2 99 Lib.Math.min.name ∈ TB := TB_mem 627 (by rfl) (by rfl)
set_option maxRecDepth 100000 in
theorem m628 : Cond.methodLink RX2 104 yX2_workAbove ∈ TB := TB_mem 628 (by rfl) (by rfl)
set_option maxRecDepth 100000 in
theorem m630 : Cond.instanceMethod yX2_workAbove ∈ TB := TB_mem 630 (by rfl) (by rfl)
set_option maxRecDepth 100000 in
theorem m631 : Cond.code yX2_workAbove cX2_workAbove 5 none ∈ TB := TB_mem 631 (by rfl) (by rfl)
set_option maxRecDepth 100000 in
theorem m632 : Cond.methodLink RL 66 yX5_sweep ∈ TB := TB_mem 632 (by rfl) (by rfl)
set_option maxRecDepth 100000 in
theorem m633 : Cond.instanceMethod yX5_sweep ∈ TB := TB_mem 633 (by rfl) (by rfl)
set_option maxRecDepth 100000 in
theorem m634 : Cond.selects RX5 yX5_sweep yX5_sweep ∈ TB := TB_mem 634 (by rfl) (by rfl)
set_option maxRecDepth 100000 in
theorem m635 : Cond.code yX5_sweep cX5_sweep 6 (some .int) ∈ TB := TB_mem 635 (by rfl) (by rfl)
set_option maxRecDepth 100000 in
theorem m636 : Cond.methodLink RX5 157 yX2_leastNode ∈ TB := TB_mem 636 (by rfl) (by rfl)
set_option maxRecDepth 100000 in
theorem m637 : Cond.instanceMethod yX2_leastNode ∈ TB := TB_mem 637 (by rfl) (by rfl)
set_option maxRecDepth 100000 in
theorem m638 : Cond.selects RX2 yX2_leastNode yX2_leastNode ∈ TB := TB_mem 638 (by rfl) (by rfl)
set_option maxRecDepth 100000 in
theorem m639 : Cond.code yX2_leastNode cX2_leastNode 3 (some .int) ∈ TB := TB_mem 639 (by rfl) (by rfl)
set_option maxRecDepth 100000 in
theorem m640 : Cond.methodLink RX2 114 yX1_listFrom ∈ TB := TB_mem 640 (by rfl) (by rfl)
set_option maxRecDepth 100000 in
theorem m641 : Cond.methodLink RX2 121 yX1_isListed ∈ TB := TB_mem 641 (by rfl) (by rfl)
set_option maxRecDepth 100000 in
theorem m642 : Cond.instanceMethod yX1_isListed ∈ TB := TB_mem 642 (by rfl) (by rfl)
set_option maxRecDepth 100000 in
theorem m643 : Cond.selects RX1 yX1_isListed yX1_isListed ∈ TB := TB_mem 643 (by rfl) (by rfl)
set_option maxRecDepth 100000 in
theorem m644 : Cond.code yX1_isListed cX1_isListed 2 (some .boolean) ∈ TB := TB_mem 644 (by rfl) (by rfl)
set_option maxRecDepth 100000 in
theorem m645 : Cond.methodLink RX2 124 yX2_leastRule ∈ TB := TB_mem 645 (by rfl) (by rfl)
set_option maxRecDepth 100000 in
theorem m646 : Cond.instanceMethod yX2_leastRule ∈ TB := TB_mem 646 (by rfl) (by rfl)
set_option maxRecDepth 100000 in
theorem m647 : Cond.selects RX2 yX2_leastRule yX2_leastRule ∈ TB := TB_mem 647 (by rfl) (by rfl)
set_option maxRecDepth 100000 in
theorem m648 : Cond.code yX2_leastRule cX2_leastRule 3 (some .int) ∈ TB := TB_mem 648 (by rfl) (by rfl)
set_option maxRecDepth 100000 in
theorem m649 : Cond.methodLink RX2 127 yX2_suits ∈ TB := TB_mem 649 (by rfl) (by rfl)
set_option maxRecDepth 100000 in
theorem m650 : Cond.methodLink RX5 160 yX2_leastRule ∈ TB := TB_mem 650 (by rfl) (by rfl)
set_option maxRecDepth 100000 in
theorem m651 : Cond.methodLink RL 70 yX5_count ∈ TB := TB_mem 651 (by rfl) (by rfl)
set_option maxRecDepth 100000 in
theorem m652 : Cond.instanceMethod yX5_count ∈ TB := TB_mem 652 (by rfl) (by rfl)
set_option maxRecDepth 100000 in
theorem m653 : Cond.selects RX5 yX5_count yX5_count ∈ TB := TB_mem 653 (by rfl) (by rfl)
set_option maxRecDepth 100000 in
theorem m654 : Cond.code yX5_count cX5_count 2 (some .int) ∈ TB := TB_mem 654 (by rfl) (by rfl)
set_option maxRecDepth 100000 in
theorem m655 : Cond.methodLink RX5 167 yX4_total ∈ TB := TB_mem 655 (by rfl) (by rfl)
set_option maxRecDepth 100000 in
theorem m656 : Cond.instanceMethod yX4_total ∈ TB := TB_mem 656 (by rfl) (by rfl)
set_option maxRecDepth 100000 in
theorem m657 : Cond.selects RX4 yX4_total yX4_total ∈ TB := TB_mem 657 (by rfl) (by rfl)
set_option maxRecDepth 100000 in
theorem m658 : Cond.code yX4_total cX4_total 6 (some .int) ∈ TB := TB_mem 658 (by rfl) (by rfl)
set_option maxRecDepth 100000 in
theorem m665 : Cond.constant RX6 68 (36000) ∈ TB := TB_mem 665 (by rfl) (by rfl)
set_option maxRecDepth 100000 in
theorem m666 : Cond.fieldLink RX6 7 (TX6 0).1 (TX6 0).2.1 (TX6 0).2.2.1 ∈ TB := TB_mem 666 (by rfl) (by rfl)
set_option maxRecDepth 100000 in
theorem m667 : Cond.fieldLink RX6 13 (TX6 1).1 (TX6 1).2.1 (TX6 1).2.2.1 ∈ TB := TB_mem 667 (by rfl) (by rfl)
