theorem dL_isGame_365 : decode cL_isGame 365 = .ok (.irem, 1) := by decide +kernel
theorem dL_isGame_366 : decode cL_isGame 366 = .ok (.iconst 2, 1) := by decide +kernel
theorem dL_isGame_367 : decode cL_isGame 367 = .ok (.imul, 1) := by decide +kernel
theorem dL_isGame_368 : decode cL_isGame 368 = .ok (.isub, 1) := by decide +kernel
theorem dL_isGame_369 : decode cL_isGame 369 = .ok (.goto 4, 3) := by decide +kernel
theorem dL_isGame_372 : decode cL_isGame 372 = .ok (.iconst 0, 1) := by decide +kernel
theorem dL_isGame_373 : decode cL_isGame 373 = .ok (.iadd, 1) := by decide +kernel
theorem dL_isGame_374 : decode cL_isGame 374 = .ok (.istore 8, 2) := by decide +kernel
theorem dL_isGame_376 : decode cL_isGame 376 = .ok (.aload_n 0, 1) := by decide +kernel
theorem dL_isGame_377 : decode cL_isGame 377 = .ok (.iload 9, 2) := by decide +kernel
theorem dL_isGame_379 : decode cL_isGame 379 = .ok (.iload 12, 2) := by decide +kernel
theorem dL_isGame_381 : decode cL_isGame 381 = .ok (.invokevirtual 113, 3) := by decide +kernel
theorem dL_isGame_384 : decode cL_isGame 384 = .ok (.iload 13, 2) := by decide +kernel
theorem dL_isGame_386 : decode cL_isGame 386 = .ok (.if_icmp .ne 7, 3) := by decide +kernel
theorem dL_isGame_389 : decode cL_isGame 389 = .ok (.iconst 1, 1) := by decide +kernel
theorem dL_isGame_390 : decode cL_isGame 390 = .ok (.goto 4, 3) := by decide +kernel
theorem dL_isGame_393 : decode cL_isGame 393 = .ok (.iconst 0, 1) := by decide +kernel
theorem dL_isGame_394 : decode cL_isGame 394 = .ok (.istore 7, 2) := by decide +kernel
theorem dL_isGame_396 : decode cL_isGame 396 = .ok (.iinc 12 1, 3) := by decide +kernel
theorem dL_isGame_399 : decode cL_isGame 399 = .ok (.goto (-67), 3) := by decide +kernel
theorem dL_isGame_402 : decode cL_isGame 402 = .ok (.iinc 9 1, 3) := by decide +kernel
theorem dL_isGame_405 : decode cL_isGame 405 = .ok (.goto (-219), 3) := by decide +kernel
theorem dL_isGame_408 : decode cL_isGame 408 = .ok (.iconst 0, 1) := by decide +kernel
theorem dL_isGame_409 : decode cL_isGame 409 = .ok (.istore 9, 2) := by decide +kernel
theorem dL_isGame_411 : decode cL_isGame 411 = .ok (.iload 9, 2) := by decide +kernel
theorem dL_isGame_413 : decode cL_isGame 413 = .ok (.bipush 24, 2) := by decide +kernel
theorem dL_isGame_415 : decode cL_isGame 415 = .ok (.if_icmp .ge 131, 3) := by decide +kernel
theorem dL_isGame_418 : decode cL_isGame 418 = .ok (.iload 7, 2) := by decide +kernel
theorem dL_isGame_420 : decode cL_isGame 420 = .ok (.ifCond .eq 126, 3) := by decide +kernel
theorem dL_isGame_423 : decode cL_isGame 423 = .ok (.iload 4, 2) := by decide +kernel
theorem dL_isGame_425 : decode cL_isGame 425 = .ok (.iload 9, 2) := by decide +kernel
theorem dL_isGame_427 : decode cL_isGame 427 = .ok (.invokestatic 13, 3) := by decide +kernel
theorem dL_isGame_430 : decode cL_isGame 430 = .ok (.istore 10, 2) := by decide +kernel
theorem dL_isGame_432 : decode cL_isGame 432 = .ok (.aload_n 0, 1) := by decide +kernel
theorem dL_isGame_433 : decode cL_isGame 433 = .ok (.iload 9, 2) := by decide +kernel
theorem dL_isGame_435 : decode cL_isGame 435 = .ok (.invokevirtual 115, 3) := by decide +kernel
theorem dL_isGame_438 : decode cL_isGame 438 = .ok (.iload 6, 2) := by decide +kernel
theorem dL_isGame_440 : decode cL_isGame 440 = .ok (.ifCond .lt 21, 3) := by decide +kernel
theorem dL_isGame_443 : decode cL_isGame 443 = .ok (.aload_n 1, 1) := by decide +kernel
theorem dL_isGame_444 : decode cL_isGame 444 = .ok (.aload_n 2, 1) := by decide +kernel
theorem dL_isGame_445 : decode cL_isGame 445 = .ok (.aload_n 3, 1) := by decide +kernel
theorem dL_isGame_446 : decode cL_isGame 446 = .ok (.aload_n 3, 1) := by decide +kernel
theorem dL_isGame_447 : decode cL_isGame 447 = .ok (.iconst 0, 1) := by decide +kernel
theorem dL_isGame_448 : decode cL_isGame 448 = .ok (.iaload, 1) := by decide +kernel
theorem dL_isGame_449 : decode cL_isGame 449 = .ok (.iload 9, 2) := by decide +kernel
theorem dL_isGame_451 : decode cL_isGame 451 = .ok (.invokestatic 21, 3) := by decide +kernel
theorem dL_isGame_454 : decode cL_isGame 454 = .ok (.ifCond .eq 7, 3) := by decide +kernel
theorem dL_isGame_457 : decode cL_isGame 457 = .ok (.iconst 1, 1) := by decide +kernel
theorem dL_isGame_458 : decode cL_isGame 458 = .ok (.goto 4, 3) := by decide +kernel
theorem dL_isGame_461 : decode cL_isGame 461 = .ok (.iconst 0, 1) := by decide +kernel
theorem dL_isGame_462 : decode cL_isGame 462 = .ok (.if_icmp .ne 75, 3) := by decide +kernel
theorem dL_isGame_465 : decode cL_isGame 465 = .ok (.aload_n 0, 1) := by decide +kernel
theorem dL_isGame_466 : decode cL_isGame 466 = .ok (.bipush 8, 2) := by decide +kernel
theorem dL_isGame_468 : decode cL_isGame 468 = .ok (.iload 9, 2) := by decide +kernel
theorem dL_isGame_470 : decode cL_isGame 470 = .ok (.iconst 0, 1) := by decide +kernel
theorem dL_isGame_471 : decode cL_isGame 471 = .ok (.invokestatic 118, 3) := by decide +kernel
theorem dL_isGame_474 : decode cL_isGame 474 = .ok (.iload 10, 2) := by decide +kernel
theorem dL_isGame_476 : decode cL_isGame 476 = .ok (.ifCond .eq 14, 3) := by decide +kernel
theorem dL_isGame_479 : decode cL_isGame 479 = .ok (.aload_n 1, 1) := by decide +kernel
theorem dL_isGame_480 : decode cL_isGame 480 = .ok (.aload_n 2, 1) := by decide +kernel
theorem dL_isGame_481 : decode cL_isGame 481 = .ok (.aload_n 3, 1) := by decide +kernel
theorem dL_isGame_482 : decode cL_isGame 482 = .ok (.iload 9, 2) := by decide +kernel
theorem dL_isGame_484 : decode cL_isGame 484 = .ok (.invokestatic 93, 3) := by decide +kernel
theorem dL_isGame_487 : decode cL_isGame 487 = .ok (.goto 5, 3) := by decide +kernel
theorem dL_isGame_490 : decode cL_isGame 490 = .ok (.bipush (-13), 2) := by decide +kernel
theorem dL_isGame_492 : decode cL_isGame 492 = .ok (.if_icmp .ne 45, 3) := by decide +kernel
theorem dL_isGame_495 : decode cL_isGame 495 = .ok (.aload_n 0, 1) := by decide +kernel
theorem dL_isGame_496 : decode cL_isGame 496 = .ok (.bipush 9, 2) := by decide +kernel
theorem dL_isGame_498 : decode cL_isGame 498 = .ok (.iload 9, 2) := by decide +kernel
theorem dL_isGame_500 : decode cL_isGame 500 = .ok (.iconst 0, 1) := by decide +kernel
theorem dL_isGame_501 : decode cL_isGame 501 = .ok (.invokestatic 118, 3) := by decide +kernel
theorem dL_isGame_504 : decode cL_isGame 504 = .ok (.iload 10, 2) := by decide +kernel
theorem dL_isGame_506 : decode cL_isGame 506 = .ok (.ifCond .ne 8, 3) := by decide +kernel
theorem dL_isGame_509 : decode cL_isGame 509 = .ok (.bipush (-13), 2) := by decide +kernel
theorem dL_isGame_511 : decode cL_isGame 511 = .ok (.goto 19, 3) := by decide +kernel
theorem dL_isGame_514 : decode cL_isGame 514 = .ok (.aload_n 1, 1) := by decide +kernel
theorem dL_isGame_515 : decode cL_isGame 515 = .ok (.aload_n 2, 1) := by decide +kernel
theorem dL_isGame_516 : decode cL_isGame 516 = .ok (.aload_n 3, 1) := by decide +kernel
theorem dL_isGame_517 : decode cL_isGame 517 = .ok (.iload 9, 2) := by decide +kernel
theorem dL_isGame_519 : decode cL_isGame 519 = .ok (.invokestatic 97, 3) := by decide +kernel
theorem dL_isGame_522 : decode cL_isGame 522 = .ok (.ifCond .eq 7, 3) := by decide +kernel
theorem dL_isGame_525 : decode cL_isGame 525 = .ok (.iconst 1, 1) := by decide +kernel
theorem dL_isGame_526 : decode cL_isGame 526 = .ok (.goto 4, 3) := by decide +kernel
theorem dL_isGame_529 : decode cL_isGame 529 = .ok (.iconst 0, 1) := by decide +kernel
theorem dL_isGame_530 : decode cL_isGame 530 = .ok (.if_icmp .ne 7, 3) := by decide +kernel
theorem dL_isGame_533 : decode cL_isGame 533 = .ok (.iconst 1, 1) := by decide +kernel
theorem dL_isGame_534 : decode cL_isGame 534 = .ok (.goto 4, 3) := by decide +kernel
theorem dL_isGame_537 : decode cL_isGame 537 = .ok (.iconst 0, 1) := by decide +kernel
theorem dL_isGame_538 : decode cL_isGame 538 = .ok (.istore 7, 2) := by decide +kernel
theorem dL_isGame_540 : decode cL_isGame 540 = .ok (.iinc 9 1, 3) := by decide +kernel
theorem dL_isGame_543 : decode cL_isGame 543 = .ok (.goto (-132), 3) := by decide +kernel
theorem dL_isGame_546 : decode cL_isGame 546 = .ok (.iload 7, 2) := by decide +kernel
theorem dL_isGame_548 : decode cL_isGame 548 = .ok (.ifCond .eq 16, 3) := by decide +kernel
theorem dL_isGame_551 : decode cL_isGame 551 = .ok (.aload_n 0, 1) := by decide +kernel
theorem dL_isGame_552 : decode cL_isGame 552 = .ok (.invokevirtual 122, 3) := by decide +kernel
theorem dL_isGame_555 : decode cL_isGame 555 = .ok (.iload 8, 2) := by decide +kernel
theorem dL_isGame_557 : decode cL_isGame 557 = .ok (.if_icmp .ne 7, 3) := by decide +kernel
theorem dL_isGame_560 : decode cL_isGame 560 = .ok (.iconst 1, 1) := by decide +kernel
theorem dL_isGame_561 : decode cL_isGame 561 = .ok (.goto 4, 3) := by decide +kernel
theorem dL_isGame_564 : decode cL_isGame 564 = .ok (.iconst 0, 1) := by decide +kernel
theorem dL_isGame_565 : decode cL_isGame 565 = .ok (.ireturn, 1) := by decide +kernel
set_option maxRecDepth 20000 in
theorem ggL_isSolved_L_does : GoodIn wsL_isSolved wsL_does := goodIn_ca (goodIn_ca (goodIn_r _ [4, 5, 6, 7, 8, 9, 10, 11, 12, 13, 14, 15, 16, 17, 18, 19, 20, 21, 22, 23, 24, 25, 26, 27, 28, 29, 30, 31, 32, 33, 34, 35, 36, 37, 38, 39, 40, 41, 42, 43, 44, 45, 46, 47, 48, 49, 50, 51, 52, 53, 54, 55, 56, 57, 58, 59, 60, 61, 62, 63, 64, 65, 66, 67, 68, 69, 70, 71, 72, 73, 74, 75, 76, 77, 78, 79, 80, 81, 82, 83, 84, 85, 86, 87, 88, 89, 90, 91, 92, 93, 94, 95, 96, 97, 98, 99, 100, 101, 102, 103, 104, 105, 106, 107, 108, 109, 110, 111, 112, 113, 114, 115, 116, 117, 118, 119, 120, 121, 122, 123, 124, 125, 126, 127, 128, 129, 130, 131, 132, 133, 134, 135, 136, 137, 138, 139, 140, 141, 142, 143, 144, 145, 146, 147, 148, 149, 150, 151, 152, 153, 154, 155, 156, 157, 158, 159, 160, 161, 162, 163, 164, 165, 166, 167, 168, 169, 170, 171, 172, 173, 174, 175, 176, 177, 178, 179, 180, 181, 182, 183, 184, 185, 186, 187, 188, 189, 190, 191, 192, 193, 194, 195, 196, 197, 198, 199, 200, 201, 202, 203, 204, 205, 206, 207, 208, 209, 210, 211, 212, 213, 214, 215, 216, 217, 218, 219, 220, 221, 222, 223, 224, 225, 226, 227, 228, 229, 230, 231, 232, 233, 234, 235, 236, 237, 238, 239, 240, 241, 242, 243, 244, 245, 246, 247, 248, 249, 250, 251, 252, 253, 254, 255, 256, 257, 258, 259, 260, 261, 262, 263, 264, 265, 266, 267, 268, 269, 270, 271, 272, 273, 274, 275, 276, 277, 278, 279, 280, 281, 282, 283, 284, 285, 286, 287, 288, 289, 290, 291, 292, 293, 294, 295, 296, 297, 298, 299, 300, 301, 302, 303, 304, 305, 306, 307, 308, 309, 310, 311, 312, 313, 314, 315, 316, 317, 318, 319, 320, 321, 322, 323, 324, 325, 326, 346, 347, 348, 349, 350, 351, 352, 353, 354, 355, 356, 357, 358, 359, 360] (by decide +kernel) (by decide +kernel)) (goodIn_sub (fun _ h => List.mem_cons_of_mem _ (List.mem_append_left _ (List.mem_append_right _ h))) (by decide +kernel))) (goodIn_sub (fun _ h => List.mem_cons_of_mem _ (List.mem_append_right _ h)) (by decide +kernel))
set_option maxRecDepth 20000 in
theorem gL_isSolved_L_does : GoodIn wsL_isSolved (va_wsS RL 118 yL_does wsL_does) := goodIn_app (goodIn_of _ (by decide +kernel)) ggL_isSolved_L_does
set_option maxRecDepth 20000 in
theorem ggL_isSolved_L_tricks : GoodIn wsL_isSolved wsL_tricks := goodIn_r _ [329, 330, 331, 3, 332] (by decide +kernel) (by decide +kernel)
set_option maxRecDepth 20000 in
theorem gL_isSolved_L_tricks : GoodIn wsL_isSolved (va_wsS RL 25 yL_tricks wsL_tricks) := goodIn_app (goodIn_of _ (by decide +kernel)) ggL_isSolved_L_tricks
set_option maxRecDepth 20000 in
theorem ggL_isSolved_L_best : GoodIn wsL_isSolved wsL_best := goodIn_r _ [335, 336, 337, 338, 3, 339, 340, 341, 342, 330, 331, 332, 343, 344, 345, 327, 328, 329] (by decide +kernel) (by decide +kernel)
set_option maxRecDepth 20000 in
theorem gL_isSolved_L_best : GoodIn wsL_isSolved (va_wsS RL 125 yL_best wsL_best) := goodIn_app (goodIn_of _ (by decide +kernel)) ggL_isSolved_L_best
set_option maxRecDepth 20000 in
theorem ggL_isSolved_L_size : GoodIn wsL_isSolved wsL_size := goodIn_r _ [339] (by decide +kernel) (by decide +kernel)
set_option maxRecDepth 20000 in
theorem gL_isSolved_L_size : GoodIn wsL_isSolved (va_wsS RL 17 yL_size wsL_size) := goodIn_app (goodIn_of _ (by decide +kernel)) ggL_isSolved_L_size
set_option maxRecDepth 20000 in
theorem ggL_isSolved_L_leader : GoodIn wsL_isSolved wsL_leader := goodIn_r _ [332] (by decide +kernel) (by decide +kernel)
set_option maxRecDepth 20000 in
theorem gL_isSolved_L_leader : GoodIn wsL_isSolved (va_wsS RL 7 yL_leader wsL_leader) := goodIn_app (goodIn_of _ (by decide +kernel)) ggL_isSolved_L_leader
set_option maxRecDepth 20000 in
theorem ggL_isSolved_L_can : GoodIn wsL_isSolved wsL_can := goodIn_r _ [342, 330, 331, 3, 332, 343, 344, 345] (by decide +kernel) (by decide +kernel)
set_option maxRecDepth 20000 in
theorem gL_isSolved_L_can : GoodIn wsL_isSolved (va_wsS RL 21 yL_can wsL_can) := goodIn_app (goodIn_of _ (by decide +kernel)) ggL_isSolved_L_can
theorem dL_isSolved_0 : decode cL_isSolved 0 = .ok (.aload_n 3, 1) := by decide +kernel
theorem dL_isSolved_1 : decode cL_isSolved 1 = .ok (.iconst 3, 1) := by decide +kernel
theorem dL_isSolved_2 : decode cL_isSolved 2 = .ok (.iaload, 1) := by decide +kernel
theorem dL_isSolved_3 : decode cL_isSolved 3 = .ok (.ifCond .ne 59, 3) := by decide +kernel
theorem dL_isSolved_6 : decode cL_isSolved 6 = .ok (.aload_n 0, 1) := by decide +kernel
theorem dL_isSolved_7 : decode cL_isSolved 7 = .ok (.iconst 4, 1) := by decide +kernel
theorem dL_isSolved_8 : decode cL_isSolved 8 = .ok (.iconst 0, 1) := by decide +kernel
theorem dL_isSolved_9 : decode cL_isSolved 9 = .ok (.iconst 0, 1) := by decide +kernel
theorem dL_isSolved_10 : decode cL_isSolved 10 = .ok (.invokestatic 118, 3) := by decide +kernel
theorem dL_isSolved_13 : decode cL_isSolved 13 = .ok (.bipush (-13), 2) := by decide +kernel
theorem dL_isSolved_15 : decode cL_isSolved 15 = .ok (.if_icmp .ne 45, 3) := by decide +kernel
theorem dL_isSolved_18 : decode cL_isSolved 18 = .ok (.aload_n 0, 1) := by decide +kernel
theorem dL_isSolved_19 : decode cL_isSolved 19 = .ok (.iconst 5, 1) := by decide +kernel
theorem dL_isSolved_20 : decode cL_isSolved 20 = .ok (.iconst 0, 1) := by decide +kernel
theorem dL_isSolved_21 : decode cL_isSolved 21 = .ok (.iconst 0, 1) := by decide +kernel
theorem dL_isSolved_22 : decode cL_isSolved 22 = .ok (.invokestatic 118, 3) := by decide +kernel
theorem dL_isSolved_25 : decode cL_isSolved 25 = .ok (.bipush (-13), 2) := by decide +kernel
theorem dL_isSolved_27 : decode cL_isSolved 27 = .ok (.if_icmp .ne 33, 3) := by decide +kernel
theorem dL_isSolved_30 : decode cL_isSolved 30 = .ok (.aload_n 0, 1) := by decide +kernel
theorem dL_isSolved_31 : decode cL_isSolved 31 = .ok (.bipush 7, 2) := by decide +kernel
theorem dL_isSolved_33 : decode cL_isSolved 33 = .ok (.iconst 0, 1) := by decide +kernel
theorem dL_isSolved_34 : decode cL_isSolved 34 = .ok (.iconst 0, 1) := by decide +kernel
theorem dL_isSolved_35 : decode cL_isSolved 35 = .ok (.invokestatic 118, 3) := by decide +kernel
theorem dL_isSolved_38 : decode cL_isSolved 38 = .ok (.bipush (-13), 2) := by decide +kernel
theorem dL_isSolved_40 : decode cL_isSolved 40 = .ok (.if_icmp .ne 20, 3) := by decide +kernel
theorem dL_isSolved_43 : decode cL_isSolved 43 = .ok (.aload_n 0, 1) := by decide +kernel
theorem dL_isSolved_44 : decode cL_isSolved 44 = .ok (.bipush 6, 2) := by decide +kernel
theorem dL_isSolved_46 : decode cL_isSolved 46 = .ok (.iconst 3, 1) := by decide +kernel
theorem dL_isSolved_47 : decode cL_isSolved 47 = .ok (.iconst 0, 1) := by decide +kernel
theorem dL_isSolved_48 : decode cL_isSolved 48 = .ok (.invokestatic 118, 3) := by decide +kernel
theorem dL_isSolved_51 : decode cL_isSolved 51 = .ok (.bipush (-13), 2) := by decide +kernel
theorem dL_isSolved_53 : decode cL_isSolved 53 = .ok (.if_icmp .ne 7, 3) := by decide +kernel
theorem dL_isSolved_56 : decode cL_isSolved 56 = .ok (.iconst 1, 1) := by decide +kernel
theorem dL_isSolved_57 : decode cL_isSolved 57 = .ok (.goto 4, 3) := by decide +kernel
theorem dL_isSolved_60 : decode cL_isSolved 60 = .ok (.iconst 0, 1) := by decide +kernel
theorem dL_isSolved_61 : decode cL_isSolved 61 = .ok (.ireturn, 1) := by decide +kernel
theorem dL_isSolved_62 : decode cL_isSolved 62 = .ok (.aload_n 2, 1) := by decide +kernel
theorem dL_isSolved_63 : decode cL_isSolved 63 = .ok (.aload_n 3, 1) := by decide +kernel
theorem dL_isSolved_64 : decode cL_isSolved 64 = .ok (.aload_n 3, 1) := by decide +kernel
theorem dL_isSolved_65 : decode cL_isSolved 65 = .ok (.iconst 0, 1) := by decide +kernel
theorem dL_isSolved_66 : decode cL_isSolved 66 = .ok (.iaload, 1) := by decide +kernel
theorem dL_isSolved_67 : decode cL_isSolved 67 = .ok (.iconst 0, 1) := by decide +kernel
theorem dL_isSolved_68 : decode cL_isSolved 68 = .ok (.invokestatic 25, 3) := by decide +kernel
theorem dL_isSolved_71 : decode cL_isSolved 71 = .ok (.istore 4, 2) := by decide +kernel
theorem dL_isSolved_73 : decode cL_isSolved 73 = .ok (.aload_n 1, 1) := by decide +kernel
theorem dL_isSolved_74 : decode cL_isSolved 74 = .ok (.aload_n 2, 1) := by decide +kernel
theorem dL_isSolved_75 : decode cL_isSolved 75 = .ok (.aload_n 3, 1) := by decide +kernel
theorem dL_isSolved_76 : decode cL_isSolved 76 = .ok (.invokestatic 125, 3) := by decide +kernel
theorem dL_isSolved_79 : decode cL_isSolved 79 = .ok (.iload 4, 2) := by decide +kernel
theorem dL_isSolved_81 : decode cL_isSolved 81 = .ok (.isub, 1) := by decide +kernel
theorem dL_isSolved_82 : decode cL_isSolved 82 = .ok (.istore 5, 2) := by decide +kernel
theorem dL_isSolved_84 : decode cL_isSolved 84 = .ok (.aload_n 3, 1) := by decide +kernel
theorem dL_isSolved_85 : decode cL_isSolved 85 = .ok (.iconst 0, 1) := by decide +kernel
theorem dL_isSolved_86 : decode cL_isSolved 86 = .ok (.iaload, 1) := by decide +kernel
theorem dL_isSolved_87 : decode cL_isSolved 87 = .ok (.aload_n 1, 1) := by decide +kernel
theorem dL_isSolved_88 : decode cL_isSolved 88 = .ok (.iconst 0, 1) := by decide +kernel
theorem dL_isSolved_89 : decode cL_isSolved 89 = .ok (.iaload, 1) := by decide +kernel
theorem dL_isSolved_90 : decode cL_isSolved 90 = .ok (.invokestatic 17, 3) := by decide +kernel
theorem dL_isSolved_93 : decode cL_isSolved 93 = .ok (.iadd, 1) := by decide +kernel
theorem dL_isSolved_94 : decode cL_isSolved 94 = .ok (.aload_n 1, 1) := by decide +kernel
theorem dL_isSolved_95 : decode cL_isSolved 95 = .ok (.iconst 1, 1) := by decide +kernel
theorem dL_isSolved_96 : decode cL_isSolved 96 = .ok (.iaload, 1) := by decide +kernel
theorem dL_isSolved_97 : decode cL_isSolved 97 = .ok (.invokestatic 17, 3) := by decide +kernel
theorem dL_isSolved_100 : decode cL_isSolved 100 = .ok (.iadd, 1) := by decide +kernel
theorem dL_isSolved_101 : decode cL_isSolved 101 = .ok (.aload_n 1, 1) := by decide +kernel
theorem dL_isSolved_102 : decode cL_isSolved 102 = .ok (.iconst 2, 1) := by decide +kernel
theorem dL_isSolved_103 : decode cL_isSolved 103 = .ok (.iaload, 1) := by decide +kernel
theorem dL_isSolved_104 : decode cL_isSolved 104 = .ok (.invokestatic 17, 3) := by decide +kernel
theorem dL_isSolved_107 : decode cL_isSolved 107 = .ok (.iadd, 1) := by decide +kernel
theorem dL_isSolved_108 : decode cL_isSolved 108 = .ok (.aload_n 1, 1) := by decide +kernel
theorem dL_isSolved_109 : decode cL_isSolved 109 = .ok (.iconst 3, 1) := by decide +kernel
theorem dL_isSolved_110 : decode cL_isSolved 110 = .ok (.iaload, 1) := by decide +kernel
theorem dL_isSolved_111 : decode cL_isSolved 111 = .ok (.invokestatic 17, 3) := by decide +kernel
theorem dL_isSolved_114 : decode cL_isSolved 114 = .ok (.iadd, 1) := by decide +kernel
theorem dL_isSolved_115 : decode cL_isSolved 115 = .ok (.iconst 4, 1) := by decide +kernel
theorem dL_isSolved_116 : decode cL_isSolved 116 = .ok (.idiv, 1) := by decide +kernel
theorem dL_isSolved_117 : decode cL_isSolved 117 = .ok (.aload_n 3, 1) := by decide +kernel
theorem dL_isSolved_118 : decode cL_isSolved 118 = .ok (.iconst 0, 1) := by decide +kernel
theorem dL_isSolved_119 : decode cL_isSolved 119 = .ok (.iaload, 1) := by decide +kernel
theorem dL_isSolved_120 : decode cL_isSolved 120 = .ok (.iconst 4, 1) := by decide +kernel
theorem dL_isSolved_121 : decode cL_isSolved 121 = .ok (.idiv, 1) := by decide +kernel
theorem dL_isSolved_122 : decode cL_isSolved 122 = .ok (.isub, 1) := by decide +kernel
theorem dL_isSolved_123 : decode cL_isSolved 123 = .ok (.istore 6, 2) := by decide +kernel
theorem dL_isSolved_125 : decode cL_isSolved 125 = .ok (.aload_n 2, 1) := by decide +kernel
theorem dL_isSolved_126 : decode cL_isSolved 126 = .ok (.aload_n 3, 1) := by decide +kernel
theorem dL_isSolved_127 : decode cL_isSolved 127 = .ok (.aload_n 3, 1) := by decide +kernel
theorem dL_isSolved_128 : decode cL_isSolved 128 = .ok (.iconst 0, 1) := by decide +kernel
theorem dL_isSolved_129 : decode cL_isSolved 129 = .ok (.iaload, 1) := by decide +kernel
theorem dL_isSolved_130 : decode cL_isSolved 130 = .ok (.invokestatic 7, 3) := by decide +kernel
theorem dL_isSolved_133 : decode cL_isSolved 133 = .ok (.aload_n 3, 1) := by decide +kernel
theorem dL_isSolved_134 : decode cL_isSolved 134 = .ok (.iconst 0, 1) := by decide +kernel
theorem dL_isSolved_135 : decode cL_isSolved 135 = .ok (.iaload, 1) := by decide +kernel
theorem dL_isSolved_136 : decode cL_isSolved 136 = .ok (.iconst 4, 1) := by decide +kernel
theorem dL_isSolved_137 : decode cL_isSolved 137 = .ok (.irem, 1) := by decide +kernel
theorem dL_isSolved_138 : decode cL_isSolved 138 = .ok (.iadd, 1) := by decide +kernel
theorem dL_isSolved_139 : decode cL_isSolved 139 = .ok (.iconst 4, 1) := by decide +kernel
theorem dL_isSolved_140 : decode cL_isSolved 140 = .ok (.irem, 1) := by decide +kernel
theorem dL_isSolved_141 : decode cL_isSolved 141 = .ok (.istore 7, 2) := by decide +kernel
theorem dL_isSolved_143 : decode cL_isSolved 143 = .ok (.aload_n 0, 1) := by decide +kernel
theorem dL_isSolved_144 : decode cL_isSolved 144 = .ok (.iconst 4, 1) := by decide +kernel
theorem dL_isSolved_145 : decode cL_isSolved 145 = .ok (.iconst 0, 1) := by decide +kernel
theorem dL_isSolved_146 : decode cL_isSolved 146 = .ok (.iconst 0, 1) := by decide +kernel
theorem dL_isSolved_147 : decode cL_isSolved 147 = .ok (.invokestatic 118, 3) := by decide +kernel
theorem dL_isSolved_150 : decode cL_isSolved 150 = .ok (.iload 5, 2) := by decide +kernel
theorem dL_isSolved_152 : decode cL_isSolved 152 = .ok (.if_icmp .ne 19, 3) := by decide +kernel
theorem dL_isSolved_155 : decode cL_isSolved 155 = .ok (.aload_n 0, 1) := by decide +kernel
theorem dL_isSolved_156 : decode cL_isSolved 156 = .ok (.iconst 5, 1) := by decide +kernel
theorem dL_isSolved_157 : decode cL_isSolved 157 = .ok (.iconst 0, 1) := by decide +kernel
theorem dL_isSolved_158 : decode cL_isSolved 158 = .ok (.iconst 0, 1) := by decide +kernel
theorem dL_isSolved_159 : decode cL_isSolved 159 = .ok (.invokestatic 118, 3) := by decide +kernel
theorem dL_isSolved_162 : decode cL_isSolved 162 = .ok (.iload 5, 2) := by decide +kernel
theorem dL_isSolved_164 : decode cL_isSolved 164 = .ok (.if_icmp .ne 7, 3) := by decide +kernel
theorem dL_isSolved_167 : decode cL_isSolved 167 = .ok (.iconst 1, 1) := by decide +kernel
theorem dL_isSolved_168 : decode cL_isSolved 168 = .ok (.goto 4, 3) := by decide +kernel
theorem dL_isSolved_171 : decode cL_isSolved 171 = .ok (.iconst 0, 1) := by decide +kernel
theorem dL_isSolved_172 : decode cL_isSolved 172 = .ok (.istore 8, 2) := by decide +kernel
theorem dL_isSolved_174 : decode cL_isSolved 174 = .ok (.iconst (-1), 1) := by decide +kernel
theorem dL_isSolved_175 : decode cL_isSolved 175 = .ok (.istore 9, 2) := by decide +kernel
theorem dL_isSolved_177 : decode cL_isSolved 177 = .ok (.bipush (-13), 2) := by decide +kernel
theorem dL_isSolved_179 : decode cL_isSolved 179 = .ok (.istore 10, 2) := by decide +kernel
theorem dL_isSolved_181 : decode cL_isSolved 181 = .ok (.iconst 0, 1) := by decide +kernel
theorem dL_isSolved_182 : decode cL_isSolved 182 = .ok (.istore 11, 2) := by decide +kernel
theorem dL_isSolved_184 : decode cL_isSolved 184 = .ok (.iload 11, 2) := by decide +kernel
theorem dL_isSolved_186 : decode cL_isSolved 186 = .ok (.bipush 24, 2) := by decide +kernel
theorem dL_isSolved_188 : decode cL_isSolved 188 = .ok (.if_icmp .ge 160, 3) := by decide +kernel
theorem dL_isSolved_191 : decode cL_isSolved 191 = .ok (.iload 8, 2) := by decide +kernel
theorem dL_isSolved_193 : decode cL_isSolved 193 = .ok (.ifCond .eq 155, 3) := by decide +kernel
theorem dL_isSolved_196 : decode cL_isSolved 196 = .ok (.bipush (-13), 2) := by decide +kernel
theorem dL_isSolved_198 : decode cL_isSolved 198 = .ok (.istore 12, 2) := by decide +kernel
theorem dL_isSolved_200 : decode cL_isSolved 200 = .ok (.aload_n 1, 1) := by decide +kernel
theorem dL_isSolved_201 : decode cL_isSolved 201 = .ok (.aload_n 2, 1) := by decide +kernel
theorem dL_isSolved_202 : decode cL_isSolved 202 = .ok (.aload_n 3, 1) := by decide +kernel
theorem dL_isSolved_203 : decode cL_isSolved 203 = .ok (.aload_n 3, 1) := by decide +kernel
theorem dL_isSolved_204 : decode cL_isSolved 204 = .ok (.iconst 0, 1) := by decide +kernel
theorem dL_isSolved_205 : decode cL_isSolved 205 = .ok (.iaload, 1) := by decide +kernel
theorem dL_isSolved_206 : decode cL_isSolved 206 = .ok (.iload 11, 2) := by decide +kernel
theorem dL_isSolved_208 : decode cL_isSolved 208 = .ok (.invokestatic 21, 3) := by decide +kernel
theorem dL_isSolved_211 : decode cL_isSolved 211 = .ok (.ifCond .eq 110, 3) := by decide +kernel
theorem dL_isSolved_214 : decode cL_isSolved 214 = .ok (.aload_n 1, 1) := by decide +kernel
theorem dL_isSolved_215 : decode cL_isSolved 215 = .ok (.iload 7, 2) := by decide +kernel
theorem dL_isSolved_217 : decode cL_isSolved 217 = .ok (.dup2, 1) := by decide +kernel
theorem dL_isSolved_218 : decode cL_isSolved 218 = .ok (.iaload, 1) := by decide +kernel
theorem dL_isSolved_219 : decode cL_isSolved 219 = .ok (.iconst 1, 1) := by decide +kernel
theorem dL_isSolved_220 : decode cL_isSolved 220 = .ok (.iload 11, 2) := by decide +kernel
theorem dL_isSolved_222 : decode cL_isSolved 222 = .ok (.ishl, 1) := by decide +kernel
theorem dL_isSolved_223 : decode cL_isSolved 223 = .ok (.iconst (-1), 1) := by decide +kernel
theorem dL_isSolved_224 : decode cL_isSolved 224 = .ok (.ixor, 1) := by decide +kernel
theorem dL_isSolved_225 : decode cL_isSolved 225 = .ok (.iand, 1) := by decide +kernel
theorem dL_isSolved_226 : decode cL_isSolved 226 = .ok (.iastore, 1) := by decide +kernel
theorem dL_isSolved_227 : decode cL_isSolved 227 = .ok (.aload_n 2, 1) := by decide +kernel
theorem dL_isSolved_228 : decode cL_isSolved 228 = .ok (.aload_n 3, 1) := by decide +kernel
theorem dL_isSolved_229 : decode cL_isSolved 229 = .ok (.iconst 0, 1) := by decide +kernel
theorem dL_isSolved_230 : decode cL_isSolved 230 = .ok (.iaload, 1) := by decide +kernel
theorem dL_isSolved_231 : decode cL_isSolved 231 = .ok (.iload 11, 2) := by decide +kernel
theorem dL_isSolved_233 : decode cL_isSolved 233 = .ok (.iastore, 1) := by decide +kernel
theorem dL_isSolved_234 : decode cL_isSolved 234 = .ok (.aload_n 3, 1) := by decide +kernel
theorem dL_isSolved_235 : decode cL_isSolved 235 = .ok (.iconst 0, 1) := by decide +kernel
theorem dL_isSolved_236 : decode cL_isSolved 236 = .ok (.dup2, 1) := by decide +kernel
theorem dL_isSolved_237 : decode cL_isSolved 237 = .ok (.iaload, 1) := by decide +kernel
theorem dL_isSolved_238 : decode cL_isSolved 238 = .ok (.iconst 1, 1) := by decide +kernel
theorem dL_isSolved_239 : decode cL_isSolved 239 = .ok (.iadd, 1) := by decide +kernel
theorem dL_isSolved_240 : decode cL_isSolved 240 = .ok (.iastore, 1) := by decide +kernel
theorem dL_isSolved_241 : decode cL_isSolved 241 = .ok (.aload_n 1, 1) := by decide +kernel
theorem dL_isSolved_242 : decode cL_isSolved 242 = .ok (.aload_n 2, 1) := by decide +kernel
theorem dL_isSolved_243 : decode cL_isSolved 243 = .ok (.aload_n 3, 1) := by decide +kernel
theorem dL_isSolved_244 : decode cL_isSolved 244 = .ok (.invokestatic 125, 3) := by decide +kernel
theorem dL_isSolved_247 : decode cL_isSolved 247 = .ok (.iload 4, 2) := by decide +kernel
theorem dL_isSolved_249 : decode cL_isSolved 249 = .ok (.isub, 1) := by decide +kernel
theorem dL_isSolved_250 : decode cL_isSolved 250 = .ok (.istore 12, 2) := by decide +kernel
theorem dL_isSolved_252 : decode cL_isSolved 252 = .ok (.aload_n 3, 1) := by decide +kernel
theorem dL_isSolved_253 : decode cL_isSolved 253 = .ok (.iconst 0, 1) := by decide +kernel
theorem dL_isSolved_254 : decode cL_isSolved 254 = .ok (.dup2, 1) := by decide +kernel
theorem dL_isSolved_255 : decode cL_isSolved 255 = .ok (.iaload, 1) := by decide +kernel
theorem dL_isSolved_256 : decode cL_isSolved 256 = .ok (.iconst 1, 1) := by decide +kernel
theorem dL_isSolved_257 : decode cL_isSolved 257 = .ok (.isub, 1) := by decide +kernel
theorem dL_isSolved_258 : decode cL_isSolved 258 = .ok (.iastore, 1) := by decide +kernel
theorem dL_isSolved_259 : decode cL_isSolved 259 = .ok (.aload_n 1, 1) := by decide +kernel
theorem dL_isSolved_260 : decode cL_isSolved 260 = .ok (.iload 7, 2) := by decide +kernel
theorem dL_isSolved_262 : decode cL_isSolved 262 = .ok (.dup2, 1) := by decide +kernel
theorem dL_isSolved_263 : decode cL_isSolved 263 = .ok (.iaload, 1) := by decide +kernel
theorem dL_isSolved_264 : decode cL_isSolved 264 = .ok (.iconst 1, 1) := by decide +kernel
theorem dL_isSolved_265 : decode cL_isSolved 265 = .ok (.iload 11, 2) := by decide +kernel
theorem dL_isSolved_267 : decode cL_isSolved 267 = .ok (.ishl, 1) := by decide +kernel
theorem dL_isSolved_268 : decode cL_isSolved 268 = .ok (.ior, 1) := by decide +kernel
theorem dL_isSolved_269 : decode cL_isSolved 269 = .ok (.iastore, 1) := by decide +kernel
theorem dL_isSolved_270 : decode cL_isSolved 270 = .ok (.iload 7, 2) := by decide +kernel
theorem dL_isSolved_272 : decode cL_isSolved 272 = .ok (.iconst 2, 1) := by decide +kernel
theorem dL_isSolved_273 : decode cL_isSolved 273 = .ok (.irem, 1) := by decide +kernel
theorem dL_isSolved_274 : decode cL_isSolved 274 = .ok (.ifCond .ne 8, 3) := by decide +kernel
theorem dL_isSolved_277 : decode cL_isSolved 277 = .ok (.iload 12, 2) := by decide +kernel
theorem dL_isSolved_279 : decode cL_isSolved 279 = .ok (.goto 8, 3) := by decide +kernel
theorem dL_isSolved_282 : decode cL_isSolved 282 = .ok (.iload 6, 2) := by decide +kernel
theorem dL_isSolved_284 : decode cL_isSolved 284 = .ok (.iload 12, 2) := by decide +kernel
theorem dL_isSolved_286 : decode cL_isSolved 286 = .ok (.isub, 1) := by decide +kernel
theorem dL_isSolved_287 : decode cL_isSolved 287 = .ok (.istore 12, 2) := by decide +kernel
theorem dL_isSolved_289 : decode cL_isSolved 289 = .ok (.iload 12, 2) := by decide +kernel
theorem dL_isSolved_291 : decode cL_isSolved 291 = .ok (.iload 9, 2) := by decide +kernel
theorem dL_isSolved_293 : decode cL_isSolved 293 = .ok (.if_icmp .le 8, 3) := by decide +kernel
theorem dL_isSolved_296 : decode cL_isSolved 296 = .ok (.iload 11, 2) := by decide +kernel
theorem dL_isSolved_298 : decode cL_isSolved 298 = .ok (.goto 5, 3) := by decide +kernel
theorem dL_isSolved_301 : decode cL_isSolved 301 = .ok (.iload 10, 2) := by decide +kernel
theorem dL_isSolved_303 : decode cL_isSolved 303 = .ok (.istore 10, 2) := by decide +kernel
theorem dL_isSolved_305 : decode cL_isSolved 305 = .ok (.iload 12, 2) := by decide +kernel
theorem dL_isSolved_307 : decode cL_isSolved 307 = .ok (.iload 9, 2) := by decide +kernel
theorem dL_isSolved_309 : decode cL_isSolved 309 = .ok (.if_icmp .le 8, 3) := by decide +kernel
theorem dL_isSolved_312 : decode cL_isSolved 312 = .ok (.iload 12, 2) := by decide +kernel
theorem dL_isSolved_314 : decode cL_isSolved 314 = .ok (.goto 5, 3) := by decide +kernel
theorem dL_isSolved_317 : decode cL_isSolved 317 = .ok (.iload 9, 2) := by decide +kernel
theorem dL_isSolved_319 : decode cL_isSolved 319 = .ok (.istore 9, 2) := by decide +kernel
theorem dL_isSolved_321 : decode cL_isSolved 321 = .ok (.aload_n 0, 1) := by decide +kernel
theorem dL_isSolved_322 : decode cL_isSolved 322 = .ok (.bipush 6, 2) := by decide +kernel
theorem dL_isSolved_324 : decode cL_isSolved 324 = .ok (.iload 11, 2) := by decide +kernel
theorem dL_isSolved_326 : decode cL_isSolved 326 = .ok (.iconst 0, 1) := by decide +kernel
theorem dL_isSolved_327 : decode cL_isSolved 327 = .ok (.invokestatic 118, 3) := by decide +kernel
theorem dL_isSolved_330 : decode cL_isSolved 330 = .ok (.iload 12, 2) := by decide +kernel
theorem dL_isSolved_332 : decode cL_isSolved 332 = .ok (.if_icmp .ne 7, 3) := by decide +kernel
theorem dL_isSolved_335 : decode cL_isSolved 335 = .ok (.iconst 1, 1) := by decide +kernel
theorem dL_isSolved_336 : decode cL_isSolved 336 = .ok (.goto 4, 3) := by decide +kernel
theorem dL_isSolved_339 : decode cL_isSolved 339 = .ok (.iconst 0, 1) := by decide +kernel
theorem dL_isSolved_340 : decode cL_isSolved 340 = .ok (.istore 8, 2) := by decide +kernel
theorem dL_isSolved_342 : decode cL_isSolved 342 = .ok (.iinc 11 1, 3) := by decide +kernel
theorem dL_isSolved_345 : decode cL_isSolved 345 = .ok (.goto (-161), 3) := by decide +kernel
theorem dL_isSolved_348 : decode cL_isSolved 348 = .ok (.iload 8, 2) := by decide +kernel
theorem dL_isSolved_350 : decode cL_isSolved 350 = .ok (.ifCond .eq 20, 3) := by decide +kernel
theorem dL_isSolved_353 : decode cL_isSolved 353 = .ok (.aload_n 0, 1) := by decide +kernel
theorem dL_isSolved_354 : decode cL_isSolved 354 = .ok (.bipush 7, 2) := by decide +kernel
theorem dL_isSolved_356 : decode cL_isSolved 356 = .ok (.iconst 0, 1) := by decide +kernel
theorem dL_isSolved_357 : decode cL_isSolved 357 = .ok (.iconst 0, 1) := by decide +kernel
theorem dL_isSolved_358 : decode cL_isSolved 358 = .ok (.invokestatic 118, 3) := by decide +kernel
theorem dL_isSolved_361 : decode cL_isSolved 361 = .ok (.iload 10, 2) := by decide +kernel
theorem dL_isSolved_363 : decode cL_isSolved 363 = .ok (.if_icmp .ne 7, 3) := by decide +kernel
theorem dL_isSolved_366 : decode cL_isSolved 366 = .ok (.iconst 1, 1) := by decide +kernel
theorem dL_isSolved_367 : decode cL_isSolved 367 = .ok (.goto 4, 3) := by decide +kernel
theorem dL_isSolved_370 : decode cL_isSolved 370 = .ok (.iconst 0, 1) := by decide +kernel
theorem dL_isSolved_371 : decode cL_isSolved 371 = .ok (.ireturn, 1) := by decide +kernel
