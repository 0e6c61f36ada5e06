theorem dL_runs_351 : decode cL_runs 351 = .ok (.iand, 1) := by decide +kernel
theorem dL_runs_352 : decode cL_runs 352 = .ok (.iconst 5, 1) := by decide +kernel
theorem dL_runs_353 : decode cL_runs 353 = .ok (.if_icmp .le 35, 3) := by decide +kernel
theorem dL_runs_356 : decode cL_runs 356 = .ok (.iload 22, 2) := by decide +kernel
theorem dL_runs_358 : decode cL_runs 358 = .ok (.ifCond .eq 12, 3) := by decide +kernel
theorem dL_runs_361 : decode cL_runs 361 = .ok (.iload 22, 2) := by decide +kernel
theorem dL_runs_363 : decode cL_runs 363 = .ok (.aload 4, 2) := by decide +kernel
theorem dL_runs_365 : decode cL_runs 365 = .ok (.iconst 2, 1) := by decide +kernel
theorem dL_runs_366 : decode cL_runs 366 = .ok (.iaload, 1) := by decide +kernel
theorem dL_runs_367 : decode cL_runs 367 = .ok (.if_icmp .ne 21, 3) := by decide +kernel
theorem dL_runs_370 : decode cL_runs 370 = .ok (.aload 16, 2) := by decide +kernel
theorem dL_runs_372 : decode cL_runs 372 = .ok (.aload_n 2, 1) := by decide +kernel
theorem dL_runs_373 : decode cL_runs 373 = .ok (.aload_n 1, 1) := by decide +kernel
theorem dL_runs_374 : decode cL_runs 374 = .ok (.aload_n 3, 1) := by decide +kernel
theorem dL_runs_375 : decode cL_runs 375 = .ok (.aload 4, 2) := by decide +kernel
theorem dL_runs_377 : decode cL_runs 377 = .ok (.aload 17, 2) := by decide +kernel
theorem dL_runs_379 : decode cL_runs 379 = .ok (.aload 18, 2) := by decide +kernel
theorem dL_runs_381 : decode cL_runs 381 = .ok (.aload 19, 2) := by decide +kernel
theorem dL_runs_383 : decode cL_runs 383 = .ok (.iload 21, 2) := by decide +kernel
theorem dL_runs_385 : decode cL_runs 385 = .ok (.invokestatic 213, 3) := by decide +kernel
theorem dL_runs_388 : decode cL_runs 388 = .ok (.iinc 21 1, 3) := by decide +kernel
theorem dL_runs_391 : decode cL_runs 391 = .ok (.goto (-81), 3) := by decide +kernel
theorem dL_runs_394 : decode cL_runs 394 = .ok (.iconst 0, 1) := by decide +kernel
theorem dL_runs_395 : decode cL_runs 395 = .ok (.istore 21, 2) := by decide +kernel
theorem dL_runs_397 : decode cL_runs 397 = .ok (.iconst 0, 1) := by decide +kernel
theorem dL_runs_398 : decode cL_runs 398 = .ok (.istore 22, 2) := by decide +kernel
theorem dL_runs_400 : decode cL_runs 400 = .ok (.iload 22, 2) := by decide +kernel
theorem dL_runs_402 : decode cL_runs 402 = .ok (.aload 4, 2) := by decide +kernel
theorem dL_runs_404 : decode cL_runs 404 = .ok (.iconst 5, 1) := by decide +kernel
theorem dL_runs_405 : decode cL_runs 405 = .ok (.iaload, 1) := by decide +kernel
theorem dL_runs_406 : decode cL_runs 406 = .ok (.if_icmp .ge 19, 3) := by decide +kernel
theorem dL_runs_409 : decode cL_runs 409 = .ok (.iload 21, 2) := by decide +kernel
theorem dL_runs_411 : decode cL_runs 411 = .ok (.aload 17, 2) := by decide +kernel
theorem dL_runs_413 : decode cL_runs 413 = .ok (.iload 22, 2) := by decide +kernel
theorem dL_runs_415 : decode cL_runs 415 = .ok (.iaload, 1) := by decide +kernel
theorem dL_runs_416 : decode cL_runs 416 = .ok (.iadd, 1) := by decide +kernel
theorem dL_runs_417 : decode cL_runs 417 = .ok (.istore 21, 2) := by decide +kernel
theorem dL_runs_419 : decode cL_runs 419 = .ok (.iinc 22 1, 3) := by decide +kernel
theorem dL_runs_422 : decode cL_runs 422 = .ok (.goto (-22), 3) := by decide +kernel
theorem dL_runs_425 : decode cL_runs 425 = .ok (.aload 4, 2) := by decide +kernel
theorem dL_runs_427 : decode cL_runs 427 = .ok (.bipush 8, 2) := by decide +kernel
theorem dL_runs_429 : decode cL_runs 429 = .ok (.iaload, 1) := by decide +kernel
theorem dL_runs_430 : decode cL_runs 430 = .ok (.aload 4, 2) := by decide +kernel
theorem dL_runs_432 : decode cL_runs 432 = .ok (.iconst 5, 1) := by decide +kernel
theorem dL_runs_433 : decode cL_runs 433 = .ok (.iaload, 1) := by decide +kernel
theorem dL_runs_434 : decode cL_runs 434 = .ok (.iadd, 1) := by decide +kernel
theorem dL_runs_435 : decode cL_runs 435 = .ok (.bipush 64, 2) := by decide +kernel
theorem dL_runs_437 : decode cL_runs 437 = .ok (.if_icmp .le 10, 3) := by decide +kernel
theorem dL_runs_440 : decode cL_runs 440 = .ok (.aload 4, 2) := by decide +kernel
theorem dL_runs_442 : decode cL_runs 442 = .ok (.bipush 10, 2) := by decide +kernel
theorem dL_runs_444 : decode cL_runs 444 = .ok (.iconst 1, 1) := by decide +kernel
theorem dL_runs_445 : decode cL_runs 445 = .ok (.iastore, 1) := by decide +kernel
theorem dL_runs_446 : decode cL_runs 446 = .ok (.return_, 1) := by decide +kernel
theorem dL_runs_447 : decode cL_runs 447 = .ok (.iconst 0, 1) := by decide +kernel
theorem dL_runs_448 : decode cL_runs 448 = .ok (.istore 22, 2) := by decide +kernel
theorem dL_runs_450 : decode cL_runs 450 = .ok (.iconst 0, 1) := by decide +kernel
theorem dL_runs_451 : decode cL_runs 451 = .ok (.istore 23, 2) := by decide +kernel
theorem dL_runs_453 : decode cL_runs 453 = .ok (.iload 23, 2) := by decide +kernel
theorem dL_runs_455 : decode cL_runs 455 = .ok (.aload 4, 2) := by decide +kernel
theorem dL_runs_457 : decode cL_runs 457 = .ok (.iconst 5, 1) := by decide +kernel
theorem dL_runs_458 : decode cL_runs 458 = .ok (.iaload, 1) := by decide +kernel
theorem dL_runs_459 : decode cL_runs 459 = .ok (.if_icmp .ge 218, 3) := by decide +kernel
theorem dL_runs_462 : decode cL_runs 462 = .ok (.aload 4, 2) := by decide +kernel
theorem dL_runs_464 : decode cL_runs 464 = .ok (.bipush 8, 2) := by decide +kernel
theorem dL_runs_466 : decode cL_runs 466 = .ok (.iaload, 1) := by decide +kernel
theorem dL_runs_467 : decode cL_runs 467 = .ok (.iload 23, 2) := by decide +kernel
theorem dL_runs_469 : decode cL_runs 469 = .ok (.iadd, 1) := by decide +kernel
theorem dL_runs_470 : decode cL_runs 470 = .ok (.istore 24, 2) := by decide +kernel
theorem dL_runs_472 : decode cL_runs 472 = .ok (.iload 22, 2) := by decide +kernel
theorem dL_runs_474 : decode cL_runs 474 = .ok (.aload 17, 2) := by decide +kernel
theorem dL_runs_476 : decode cL_runs 476 = .ok (.iload 23, 2) := by decide +kernel
theorem dL_runs_478 : decode cL_runs 478 = .ok (.iaload, 1) := by decide +kernel
theorem dL_runs_479 : decode cL_runs 479 = .ok (.iadd, 1) := by decide +kernel
theorem dL_runs_480 : decode cL_runs 480 = .ok (.istore 22, 2) := by decide +kernel
theorem dL_runs_482 : decode cL_runs 482 = .ok (.aload 11, 2) := by decide +kernel
theorem dL_runs_484 : decode cL_runs 484 = .ok (.iload 24, 2) := by decide +kernel
theorem dL_runs_486 : decode cL_runs 486 = .ok (.aload 16, 2) := by decide +kernel
theorem dL_runs_488 : decode cL_runs 488 = .ok (.iload 23, 2) := by decide +kernel
theorem dL_runs_490 : decode cL_runs 490 = .ok (.laload, 1) := by decide +kernel
theorem dL_runs_491 : decode cL_runs 491 = .ok (.invokestatic 108, 3) := by decide +kernel
theorem dL_runs_494 : decode cL_runs 494 = .ok (.sipush 256, 3) := by decide +kernel
theorem dL_runs_497 : decode cL_runs 497 = .ok (.aload 16, 2) := by decide +kernel
theorem dL_runs_499 : decode cL_runs 499 = .ok (.iload 23, 2) := by decide +kernel
theorem dL_runs_501 : decode cL_runs 501 = .ok (.laload, 1) := by decide +kernel
theorem dL_runs_502 : decode cL_runs 502 = .ok (.bipush 8, 2) := by decide +kernel
theorem dL_runs_504 : decode cL_runs 504 = .ok (.bipush 15, 2) := by decide +kernel
theorem dL_runs_506 : decode cL_runs 506 = .ok (.invokestatic 116, 3) := by decide +kernel
theorem dL_runs_509 : decode cL_runs 509 = .ok (.imul, 1) := by decide +kernel
theorem dL_runs_510 : decode cL_runs 510 = .ok (.iadd, 1) := by decide +kernel
theorem dL_runs_511 : decode cL_runs 511 = .ok (.iastore, 1) := by decide +kernel
theorem dL_runs_512 : decode cL_runs 512 = .ok (.aload 12, 2) := by decide +kernel
theorem dL_runs_514 : decode cL_runs 514 = .ok (.iload 24, 2) := by decide +kernel
theorem dL_runs_516 : decode cL_runs 516 = .ok (.aload 17, 2) := by decide +kernel
theorem dL_runs_518 : decode cL_runs 518 = .ok (.iload 23, 2) := by decide +kernel
theorem dL_runs_520 : decode cL_runs 520 = .ok (.iaload, 1) := by decide +kernel
theorem dL_runs_521 : decode cL_runs 521 = .ok (.iastore, 1) := by decide +kernel
theorem dL_runs_522 : decode cL_runs 522 = .ok (.aload 13, 2) := by decide +kernel
theorem dL_runs_524 : decode cL_runs 524 = .ok (.iload 24, 2) := by decide +kernel
theorem dL_runs_526 : decode cL_runs 526 = .ok (.aload 18, 2) := by decide +kernel
theorem dL_runs_528 : decode cL_runs 528 = .ok (.iload 23, 2) := by decide +kernel
theorem dL_runs_530 : decode cL_runs 530 = .ok (.iaload, 1) := by decide +kernel
theorem dL_runs_531 : decode cL_runs 531 = .ok (.iastore, 1) := by decide +kernel
theorem dL_runs_532 : decode cL_runs 532 = .ok (.aload 14, 2) := by decide +kernel
theorem dL_runs_534 : decode cL_runs 534 = .ok (.iload 24, 2) := by decide +kernel
theorem dL_runs_536 : decode cL_runs 536 = .ok (.iload 10, 2) := by decide +kernel
theorem dL_runs_538 : decode cL_runs 538 = .ok (.ifCond .eq 14, 3) := by decide +kernel
theorem dL_runs_541 : decode cL_runs 541 = .ok (.iload 9, 2) := by decide +kernel
theorem dL_runs_543 : decode cL_runs 543 = .ok (.iload 21, 2) := by decide +kernel
theorem dL_runs_545 : decode cL_runs 545 = .ok (.iadd, 1) := by decide +kernel
theorem dL_runs_546 : decode cL_runs 546 = .ok (.iload 22, 2) := by decide +kernel
theorem dL_runs_548 : decode cL_runs 548 = .ok (.isub, 1) := by decide +kernel
theorem dL_runs_549 : decode cL_runs 549 = .ok (.goto 14, 3) := by decide +kernel
theorem dL_runs_552 : decode cL_runs 552 = .ok (.iload 9, 2) := by decide +kernel
theorem dL_runs_554 : decode cL_runs 554 = .ok (.iload 22, 2) := by decide +kernel
theorem dL_runs_556 : decode cL_runs 556 = .ok (.iadd, 1) := by decide +kernel
theorem dL_runs_557 : decode cL_runs 557 = .ok (.aload 17, 2) := by decide +kernel
theorem dL_runs_559 : decode cL_runs 559 = .ok (.iload 23, 2) := by decide +kernel
theorem dL_runs_561 : decode cL_runs 561 = .ok (.iaload, 1) := by decide +kernel
theorem dL_runs_562 : decode cL_runs 562 = .ok (.isub, 1) := by decide +kernel
theorem dL_runs_563 : decode cL_runs 563 = .ok (.iastore, 1) := by decide +kernel
theorem dL_runs_564 : decode cL_runs 564 = .ok (.aload 15, 2) := by decide +kernel
theorem dL_runs_566 : decode cL_runs 566 = .ok (.iload 24, 2) := by decide +kernel
theorem dL_runs_568 : decode cL_runs 568 = .ok (.aload 19, 2) := by decide +kernel
theorem dL_runs_570 : decode cL_runs 570 = .ok (.iload 23, 2) := by decide +kernel
theorem dL_runs_572 : decode cL_runs 572 = .ok (.iaload, 1) := by decide +kernel
theorem dL_runs_573 : decode cL_runs 573 = .ok (.iastore, 1) := by decide +kernel
theorem dL_runs_574 : decode cL_runs 574 = .ok (.aload 19, 2) := by decide +kernel
theorem dL_runs_576 : decode cL_runs 576 = .ok (.iload 23, 2) := by decide +kernel
theorem dL_runs_578 : decode cL_runs 578 = .ok (.iaload, 1) := by decide +kernel
theorem dL_runs_579 : decode cL_runs 579 = .ok (.ifCond .ne 6, 3) := by decide +kernel
theorem dL_runs_582 : decode cL_runs 582 = .ok (.goto 89, 3) := by decide +kernel
theorem dL_runs_585 : decode cL_runs 585 = .ok (.aload 4, 2) := by decide +kernel
theorem dL_runs_587 : decode cL_runs 587 = .ok (.bipush 8, 2) := by decide +kernel
theorem dL_runs_589 : decode cL_runs 589 = .ok (.iaload, 1) := by decide +kernel
theorem dL_runs_590 : decode cL_runs 590 = .ok (.aload 19, 2) := by decide +kernel
theorem dL_runs_592 : decode cL_runs 592 = .ok (.iload 23, 2) := by decide +kernel
theorem dL_runs_594 : decode cL_runs 594 = .ok (.iaload, 1) := by decide +kernel
theorem dL_runs_595 : decode cL_runs 595 = .ok (.ldc 197, 2) := by decide +kernel
theorem dL_runs_597 : decode cL_runs 597 = .ok (.idiv, 1) := by decide +kernel
theorem dL_runs_598 : decode cL_runs 598 = .ok (.iadd, 1) := by decide +kernel
theorem dL_runs_599 : decode cL_runs 599 = .ok (.iconst 1, 1) := by decide +kernel
theorem dL_runs_600 : decode cL_runs 600 = .ok (.isub, 1) := by decide +kernel
theorem dL_runs_601 : decode cL_runs 601 = .ok (.istore 25, 2) := by decide +kernel
theorem dL_runs_603 : decode cL_runs 603 = .ok (.aload 14, 2) := by decide +kernel
theorem dL_runs_605 : decode cL_runs 605 = .ok (.iload 24, 2) := by decide +kernel
theorem dL_runs_607 : decode cL_runs 607 = .ok (.aload 14, 2) := by decide +kernel
theorem dL_runs_609 : decode cL_runs 609 = .ok (.iload 25, 2) := by decide +kernel
theorem dL_runs_611 : decode cL_runs 611 = .ok (.iaload, 1) := by decide +kernel
theorem dL_runs_612 : decode cL_runs 612 = .ok (.aload 19, 2) := by decide +kernel
theorem dL_runs_614 : decode cL_runs 614 = .ok (.iload 23, 2) := by decide +kernel
theorem dL_runs_616 : decode cL_runs 616 = .ok (.iaload, 1) := by decide +kernel
theorem dL_runs_617 : decode cL_runs 617 = .ok (.ldc 197, 2) := by decide +kernel
theorem dL_runs_619 : decode cL_runs 619 = .ok (.irem, 1) := by decide +kernel
theorem dL_runs_620 : decode cL_runs 620 = .ok (.sipush 300, 3) := by decide +kernel
theorem dL_runs_623 : decode cL_runs 623 = .ok (.idiv, 1) := by decide +kernel
theorem dL_runs_624 : decode cL_runs 624 = .ok (.iadd, 1) := by decide +kernel
theorem dL_runs_625 : decode cL_runs 625 = .ok (.bipush 100, 2) := by decide +kernel
theorem dL_runs_627 : decode cL_runs 627 = .ok (.isub, 1) := by decide +kernel
theorem dL_runs_628 : decode cL_runs 628 = .ok (.iastore, 1) := by decide +kernel
theorem dL_runs_629 : decode cL_runs 629 = .ok (.aload 13, 2) := by decide +kernel
theorem dL_runs_631 : decode cL_runs 631 = .ok (.iload 24, 2) := by decide +kernel
theorem dL_runs_633 : decode cL_runs 633 = .ok (.aload 13, 2) := by decide +kernel
theorem dL_runs_635 : decode cL_runs 635 = .ok (.iload 25, 2) := by decide +kernel
theorem dL_runs_637 : decode cL_runs 637 = .ok (.iaload, 1) := by decide +kernel
theorem dL_runs_638 : decode cL_runs 638 = .ok (.aload 19, 2) := by decide +kernel
theorem dL_runs_640 : decode cL_runs 640 = .ok (.iload 23, 2) := by decide +kernel
theorem dL_runs_642 : decode cL_runs 642 = .ok (.iaload, 1) := by decide +kernel
theorem dL_runs_643 : decode cL_runs 643 = .ok (.ldc 197, 2) := by decide +kernel
theorem dL_runs_645 : decode cL_runs 645 = .ok (.irem, 1) := by decide +kernel
theorem dL_runs_646 : decode cL_runs 646 = .ok (.sipush 300, 3) := by decide +kernel
theorem dL_runs_649 : decode cL_runs 649 = .ok (.irem, 1) := by decide +kernel
theorem dL_runs_650 : decode cL_runs 650 = .ok (.iadd, 1) := by decide +kernel
theorem dL_runs_651 : decode cL_runs 651 = .ok (.bipush 100, 2) := by decide +kernel
theorem dL_runs_653 : decode cL_runs 653 = .ok (.isub, 1) := by decide +kernel
theorem dL_runs_654 : decode cL_runs 654 = .ok (.iastore, 1) := by decide +kernel
theorem dL_runs_655 : decode cL_runs 655 = .ok (.aload 15, 2) := by decide +kernel
theorem dL_runs_657 : decode cL_runs 657 = .ok (.iload 24, 2) := by decide +kernel
theorem dL_runs_659 : decode cL_runs 659 = .ok (.dup2, 1) := by decide +kernel
theorem dL_runs_660 : decode cL_runs 660 = .ok (.iaload, 1) := by decide +kernel
theorem dL_runs_661 : decode cL_runs 661 = .ok (.ldc 197, 2) := by decide +kernel
theorem dL_runs_663 : decode cL_runs 663 = .ok (.aload 4, 2) := by decide +kernel
theorem dL_runs_665 : decode cL_runs 665 = .ok (.bipush 8, 2) := by decide +kernel
theorem dL_runs_667 : decode cL_runs 667 = .ok (.iaload, 1) := by decide +kernel
theorem dL_runs_668 : decode cL_runs 668 = .ok (.imul, 1) := by decide +kernel
theorem dL_runs_669 : decode cL_runs 669 = .ok (.iadd, 1) := by decide +kernel
theorem dL_runs_670 : decode cL_runs 670 = .ok (.iastore, 1) := by decide +kernel
theorem dL_runs_671 : decode cL_runs 671 = .ok (.iinc 23 1, 3) := by decide +kernel
theorem dL_runs_674 : decode cL_runs 674 = .ok (.goto (-221), 3) := by decide +kernel
theorem dL_runs_677 : decode cL_runs 677 = .ok (.aload 4, 2) := by decide +kernel
theorem dL_runs_679 : decode cL_runs 679 = .ok (.bipush 8, 2) := by decide +kernel
theorem dL_runs_681 : decode cL_runs 681 = .ok (.dup2, 1) := by decide +kernel
theorem dL_runs_682 : decode cL_runs 682 = .ok (.iaload, 1) := by decide +kernel
theorem dL_runs_683 : decode cL_runs 683 = .ok (.aload 4, 2) := by decide +kernel
theorem dL_runs_685 : decode cL_runs 685 = .ok (.iconst 5, 1) := by decide +kernel
theorem dL_runs_686 : decode cL_runs 686 = .ok (.iaload, 1) := by decide +kernel
theorem dL_runs_687 : decode cL_runs 687 = .ok (.iadd, 1) := by decide +kernel
theorem dL_runs_688 : decode cL_runs 688 = .ok (.iastore, 1) := by decide +kernel
theorem dL_runs_689 : decode cL_runs 689 = .ok (.aload 4, 2) := by decide +kernel
theorem dL_runs_691 : decode cL_runs 691 = .ok (.bipush 11, 2) := by decide +kernel
theorem dL_runs_693 : decode cL_runs 693 = .ok (.iload 21, 2) := by decide +kernel
theorem dL_runs_695 : decode cL_runs 695 = .ok (.iastore, 1) := by decide +kernel
theorem dL_runs_696 : decode cL_runs 696 = .ok (.return_, 1) := by decide +kernel
theorem dL_shape_0 : decode cL_shape 0 = .ok (.iconst 0, 1) := by decide +kernel
theorem dL_shape_1 : decode cL_shape 1 = .ok (.istore 15, 2) := by decide +kernel
theorem dL_shape_3 : decode cL_shape 3 = .ok (.iconst 0, 1) := by decide +kernel
theorem dL_shape_4 : decode cL_shape 4 = .ok (.istore 16, 2) := by decide +kernel
theorem dL_shape_6 : decode cL_shape 6 = .ok (.iload 8, 2) := by decide +kernel
theorem dL_shape_8 : decode cL_shape 8 = .ok (.iconst 1, 1) := by decide +kernel
theorem dL_shape_9 : decode cL_shape 9 = .ok (.isub, 1) := by decide +kernel
theorem dL_shape_10 : decode cL_shape 10 = .ok (.istore 17, 2) := by decide +kernel
theorem dL_shape_12 : decode cL_shape 12 = .ok (.iload 17, 2) := by decide +kernel
theorem dL_shape_14 : decode cL_shape 14 = .ok (.iload 7, 2) := by decide +kernel
theorem dL_shape_16 : decode cL_shape 16 = .ok (.if_icmp .lt 45, 3) := by decide +kernel
theorem dL_shape_19 : decode cL_shape 19 = .ok (.aload_n 0, 1) := by decide +kernel
theorem dL_shape_20 : decode cL_shape 20 = .ok (.iload 17, 2) := by decide +kernel
theorem dL_shape_22 : decode cL_shape 22 = .ok (.iaload, 1) := by decide +kernel
theorem dL_shape_23 : decode cL_shape 23 = .ok (.bipush 63, 2) := by decide +kernel
theorem dL_shape_25 : decode cL_shape 25 = .ok (.iand, 1) := by decide +kernel
theorem dL_shape_26 : decode cL_shape 26 = .ok (.bipush 29, 2) := by decide +kernel
theorem dL_shape_28 : decode cL_shape 28 = .ok (.if_icmp .le 7, 3) := by decide +kernel
theorem dL_shape_31 : decode cL_shape 31 = .ok (.iconst 1, 1) := by decide +kernel
theorem dL_shape_32 : decode cL_shape 32 = .ok (.goto 21, 3) := by decide +kernel
theorem dL_shape_35 : decode cL_shape 35 = .ok (.aload_n 0, 1) := by decide +kernel
theorem dL_shape_36 : decode cL_shape 36 = .ok (.iload 17, 2) := by decide +kernel
theorem dL_shape_38 : decode cL_shape 38 = .ok (.iaload, 1) := by decide +kernel
theorem dL_shape_39 : decode cL_shape 39 = .ok (.bipush 63, 2) := by decide +kernel
theorem dL_shape_41 : decode cL_shape 41 = .ok (.iand, 1) := by decide +kernel
theorem dL_shape_42 : decode cL_shape 42 = .ok (.bipush 9, 2) := by decide +kernel
theorem dL_shape_44 : decode cL_shape 44 = .ok (.if_icmp .le 7, 3) := by decide +kernel
theorem dL_shape_47 : decode cL_shape 47 = .ok (.iconst 0, 1) := by decide +kernel
theorem dL_shape_48 : decode cL_shape 48 = .ok (.goto 5, 3) := by decide +kernel
theorem dL_shape_51 : decode cL_shape 51 = .ok (.iload 16, 2) := by decide +kernel
theorem dL_shape_53 : decode cL_shape 53 = .ok (.istore 16, 2) := by decide +kernel
theorem dL_shape_55 : decode cL_shape 55 = .ok (.iinc 17 (-1), 3) := by decide +kernel
theorem dL_shape_58 : decode cL_shape 58 = .ok (.goto (-46), 3) := by decide +kernel
theorem dL_shape_61 : decode cL_shape 61 = .ok (.iload 7, 2) := by decide +kernel
theorem dL_shape_63 : decode cL_shape 63 = .ok (.istore 17, 2) := by decide +kernel
theorem dL_shape_65 : decode cL_shape 65 = .ok (.iload 17, 2) := by decide +kernel
theorem dL_shape_67 : decode cL_shape 67 = .ok (.iload 8, 2) := by decide +kernel
theorem dL_shape_69 : decode cL_shape 69 = .ok (.if_icmp .ge 243, 3) := by decide +kernel
theorem dL_shape_72 : decode cL_shape 72 = .ok (.aload_n 0, 1) := by decide +kernel
theorem dL_shape_73 : decode cL_shape 73 = .ok (.iload 17, 2) := by decide +kernel
theorem dL_shape_75 : decode cL_shape 75 = .ok (.iaload, 1) := by decide +kernel
theorem dL_shape_76 : decode cL_shape 76 = .ok (.bipush 63, 2) := by decide +kernel
theorem dL_shape_78 : decode cL_shape 78 = .ok (.iand, 1) := by decide +kernel
theorem dL_shape_79 : decode cL_shape 79 = .ok (.bipush 29, 2) := by decide +kernel
theorem dL_shape_81 : decode cL_shape 81 = .ok (.if_icmp .le 7, 3) := by decide +kernel
theorem dL_shape_84 : decode cL_shape 84 = .ok (.iconst 1, 1) := by decide +kernel
theorem dL_shape_85 : decode cL_shape 85 = .ok (.goto 21, 3) := by decide +kernel
theorem dL_shape_88 : decode cL_shape 88 = .ok (.aload_n 0, 1) := by decide +kernel
theorem dL_shape_89 : decode cL_shape 89 = .ok (.iload 17, 2) := by decide +kernel
theorem dL_shape_91 : decode cL_shape 91 = .ok (.iaload, 1) := by decide +kernel
theorem dL_shape_92 : decode cL_shape 92 = .ok (.bipush 63, 2) := by decide +kernel
theorem dL_shape_94 : decode cL_shape 94 = .ok (.iand, 1) := by decide +kernel
theorem dL_shape_95 : decode cL_shape 95 = .ok (.bipush 9, 2) := by decide +kernel
theorem dL_shape_97 : decode cL_shape 97 = .ok (.if_icmp .le 7, 3) := by decide +kernel
theorem dL_shape_100 : decode cL_shape 100 = .ok (.iconst 0, 1) := by decide +kernel
theorem dL_shape_101 : decode cL_shape 101 = .ok (.goto 5, 3) := by decide +kernel
theorem dL_shape_104 : decode cL_shape 104 = .ok (.iload 16, 2) := by decide +kernel
theorem dL_shape_106 : decode cL_shape 106 = .ok (.istore 16, 2) := by decide +kernel
theorem dL_shape_108 : decode cL_shape 108 = .ok (.iload 17, 2) := by decide +kernel
theorem dL_shape_110 : decode cL_shape 110 = .ok (.iconst 1, 1) := by decide +kernel
theorem dL_shape_111 : decode cL_shape 111 = .ok (.iadd, 1) := by decide +kernel
theorem dL_shape_112 : decode cL_shape 112 = .ok (.istore 18, 2) := by decide +kernel
theorem dL_shape_114 : decode cL_shape 114 = .ok (.iload 18, 2) := by decide +kernel
theorem dL_shape_116 : decode cL_shape 116 = .ok (.iload 8, 2) := by decide +kernel
theorem dL_shape_118 : decode cL_shape 118 = .ok (.if_icmp .ge 80, 3) := by decide +kernel
theorem dL_shape_121 : decode cL_shape 121 = .ok (.lload 5, 2) := by decide +kernel
theorem dL_shape_123 : decode cL_shape 123 = .ok (.aload_n 0, 1) := by decide +kernel
theorem dL_shape_124 : decode cL_shape 124 = .ok (.iload 18, 2) := by decide +kernel
theorem dL_shape_126 : decode cL_shape 126 = .ok (.iaload, 1) := by decide +kernel
theorem dL_shape_127 : decode cL_shape 127 = .ok (.bipush 63, 2) := by decide +kernel
theorem dL_shape_129 : decode cL_shape 129 = .ok (.iand, 1) := by decide +kernel
theorem dL_shape_130 : decode cL_shape 130 = .ok (.lshr, 1) := by decide +kernel
theorem dL_shape_131 : decode cL_shape 131 = .ok (.lconst 1, 1) := by decide +kernel
theorem dL_shape_132 : decode cL_shape 132 = .ok (.land, 1) := by decide +kernel
theorem dL_shape_133 : decode cL_shape 133 = .ok (.lload 5, 2) := by decide +kernel
theorem dL_shape_135 : decode cL_shape 135 = .ok (.aload_n 0, 1) := by decide +kernel
theorem dL_shape_136 : decode cL_shape 136 = .ok (.iload 17, 2) := by decide +kernel
theorem dL_shape_138 : decode cL_shape 138 = .ok (.iaload, 1) := by decide +kernel
theorem dL_shape_139 : decode cL_shape 139 = .ok (.bipush 63, 2) := by decide +kernel
theorem dL_shape_141 : decode cL_shape 141 = .ok (.iand, 1) := by decide +kernel
theorem dL_shape_142 : decode cL_shape 142 = .ok (.lshr, 1) := by decide +kernel
theorem dL_shape_143 : decode cL_shape 143 = .ok (.lconst 1, 1) := by decide +kernel
theorem dL_shape_144 : decode cL_shape 144 = .ok (.land, 1) := by decide +kernel
theorem dL_shape_145 : decode cL_shape 145 = .ok (.lcmp, 1) := by decide +kernel
theorem dL_shape_146 : decode cL_shape 146 = .ok (.ifCond .ne 52, 3) := by decide +kernel
theorem dL_shape_149 : decode cL_shape 149 = .ok (.aload_n 0, 1) := by decide +kernel
theorem dL_shape_150 : decode cL_shape 150 = .ok (.iload 18, 2) := by decide +kernel
theorem dL_shape_152 : decode cL_shape 152 = .ok (.iaload, 1) := by decide +kernel
theorem dL_shape_153 : decode cL_shape 153 = .ok (.bipush 63, 2) := by decide +kernel
theorem dL_shape_155 : decode cL_shape 155 = .ok (.iand, 1) := by decide +kernel
theorem dL_shape_156 : decode cL_shape 156 = .ok (.bipush 10, 2) := by decide +kernel
theorem dL_shape_158 : decode cL_shape 158 = .ok (.if_icmp .lt 34, 3) := by decide +kernel
theorem dL_shape_161 : decode cL_shape 161 = .ok (.aload_n 0, 1) := by decide +kernel
theorem dL_shape_162 : decode cL_shape 162 = .ok (.iload 18, 2) := by decide +kernel
theorem dL_shape_164 : decode cL_shape 164 = .ok (.iaload, 1) := by decide +kernel
theorem dL_shape_165 : decode cL_shape 165 = .ok (.bipush 63, 2) := by decide +kernel
theorem dL_shape_167 : decode cL_shape 167 = .ok (.iand, 1) := by decide +kernel
theorem dL_shape_168 : decode cL_shape 168 = .ok (.bipush 29, 2) := by decide +kernel
theorem dL_shape_170 : decode cL_shape 170 = .ok (.if_icmp .le 7, 3) := by decide +kernel
theorem dL_shape_173 : decode cL_shape 173 = .ok (.iconst 1, 1) := by decide +kernel
theorem dL_shape_174 : decode cL_shape 174 = .ok (.goto 4, 3) := by decide +kernel
theorem dL_shape_177 : decode cL_shape 177 = .ok (.iconst 0, 1) := by decide +kernel
theorem dL_shape_178 : decode cL_shape 178 = .ok (.iload 16, 2) := by decide +kernel
theorem dL_shape_180 : decode cL_shape 180 = .ok (.iconst 1, 1) := by decide +kernel
theorem dL_shape_181 : decode cL_shape 181 = .ok (.if_icmp .ne 7, 3) := by decide +kernel
theorem dL_shape_184 : decode cL_shape 184 = .ok (.iconst 1, 1) := by decide +kernel
theorem dL_shape_185 : decode cL_shape 185 = .ok (.goto 4, 3) := by decide +kernel
theorem dL_shape_188 : decode cL_shape 188 = .ok (.iconst 0, 1) := by decide +kernel
theorem dL_shape_189 : decode cL_shape 189 = .ok (.if_icmp .ne 9, 3) := by decide +kernel
theorem dL_shape_192 : decode cL_shape 192 = .ok (.iinc 18 1, 3) := by decide +kernel
theorem dL_shape_195 : decode cL_shape 195 = .ok (.goto (-81), 3) := by decide +kernel
theorem dL_shape_198 : decode cL_shape 198 = .ok (.aload 14, 2) := by decide +kernel
theorem dL_shape_200 : decode cL_shape 200 = .ok (.aload 4, 2) := by decide +kernel
theorem dL_shape_202 : decode cL_shape 202 = .ok (.bipush 9, 2) := by decide +kernel
theorem dL_shape_204 : decode cL_shape 204 = .ok (.iaload, 1) := by decide +kernel
theorem dL_shape_205 : decode cL_shape 205 = .ok (.iload 17, 2) := by decide +kernel
theorem dL_shape_207 : decode cL_shape 207 = .ok (.bipush 100, 2) := by decide +kernel
theorem dL_shape_209 : decode cL_shape 209 = .ok (.iload 16, 2) := by decide +kernel
theorem dL_shape_211 : decode cL_shape 211 = .ok (.imul, 1) := by decide +kernel
theorem dL_shape_212 : decode cL_shape 212 = .ok (.iadd, 1) := by decide +kernel
theorem dL_shape_213 : decode cL_shape 213 = .ok (.iastore, 1) := by decide +kernel
theorem dL_shape_214 : decode cL_shape 214 = .ok (.aload 14, 2) := by decide +kernel
theorem dL_shape_216 : decode cL_shape 216 = .ok (.bipush 20, 2) := by decide +kernel
theorem dL_shape_218 : decode cL_shape 218 = .ok (.aload 4, 2) := by decide +kernel
theorem dL_shape_220 : decode cL_shape 220 = .ok (.bipush 9, 2) := by decide +kernel
theorem dL_shape_222 : decode cL_shape 222 = .ok (.iaload, 1) := by decide +kernel
theorem dL_shape_223 : decode cL_shape 223 = .ok (.iadd, 1) := by decide +kernel
theorem dL_shape_224 : decode cL_shape 224 = .ok (.aload 4, 2) := by decide +kernel
theorem dL_shape_226 : decode cL_shape 226 = .ok (.bipush 8, 2) := by decide +kernel
theorem dL_shape_228 : decode cL_shape 228 = .ok (.iaload, 1) := by decide +kernel
theorem dL_shape_229 : decode cL_shape 229 = .ok (.iastore, 1) := by decide +kernel
theorem dL_shape_230 : decode cL_shape 230 = .ok (.aload 14, 2) := by decide +kernel
theorem dL_shape_232 : decode cL_shape 232 = .ok (.bipush 40, 2) := by decide +kernel
theorem dL_shape_234 : decode cL_shape 234 = .ok (.aload 4, 2) := by decide +kernel
theorem dL_shape_236 : decode cL_shape 236 = .ok (.bipush 9, 2) := by decide +kernel
theorem dL_shape_238 : decode cL_shape 238 = .ok (.iaload, 1) := by decide +kernel
theorem dL_shape_239 : decode cL_shape 239 = .ok (.iadd, 1) := by decide +kernel
theorem dL_shape_240 : decode cL_shape 240 = .ok (.iload 15, 2) := by decide +kernel
theorem dL_shape_242 : decode cL_shape 242 = .ok (.iastore, 1) := by decide +kernel
theorem dL_shape_243 : decode cL_shape 243 = .ok (.aload 4, 2) := by decide +kernel
theorem dL_shape_245 : decode cL_shape 245 = .ok (.bipush 9, 2) := by decide +kernel
theorem dL_shape_247 : decode cL_shape 247 = .ok (.dup2, 1) := by decide +kernel
theorem dL_shape_248 : decode cL_shape 248 = .ok (.iaload, 1) := by decide +kernel
theorem dL_shape_249 : decode cL_shape 249 = .ok (.iconst 1, 1) := by decide +kernel
theorem dL_shape_250 : decode cL_shape 250 = .ok (.iadd, 1) := by decide +kernel
theorem dL_shape_251 : decode cL_shape 251 = .ok (.iastore, 1) := by decide +kernel
theorem dL_shape_252 : decode cL_shape 252 = .ok (.aload 4, 2) := by decide +kernel
theorem dL_shape_254 : decode cL_shape 254 = .ok (.bipush 11, 2) := by decide +kernel
theorem dL_shape_256 : decode cL_shape 256 = .ok (.iconst 0, 1) := by decide +kernel
theorem dL_shape_257 : decode cL_shape 257 = .ok (.iastore, 1) := by decide +kernel
theorem dL_shape_258 : decode cL_shape 258 = .ok (.aload_n 0, 1) := by decide +kernel
theorem dL_shape_259 : decode cL_shape 259 = .ok (.aload_n 1, 1) := by decide +kernel
theorem dL_shape_260 : decode cL_shape 260 = .ok (.aload_n 2, 1) := by decide +kernel
theorem dL_shape_261 : decode cL_shape 261 = .ok (.aload_n 3, 1) := by decide +kernel
theorem dL_shape_262 : decode cL_shape 262 = .ok (.aload 4, 2) := by decide +kernel
theorem dL_shape_264 : decode cL_shape 264 = .ok (.lload 5, 2) := by decide +kernel
theorem dL_shape_266 : decode cL_shape 266 = .ok (.iload 17, 2) := by decide +kernel
theorem dL_shape_268 : decode cL_shape 268 = .ok (.iload 18, 2) := by decide +kernel
theorem dL_shape_270 : decode cL_shape 270 = .ok (.iload 15, 2) := by decide +kernel
theorem dL_shape_272 : decode cL_shape 272 = .ok (.iload 16, 2) := by decide +kernel
theorem dL_shape_274 : decode cL_shape 274 = .ok (.ifCond .ne 7, 3) := by decide +kernel
theorem dL_shape_277 : decode cL_shape 277 = .ok (.iconst 1, 1) := by decide +kernel
theorem dL_shape_278 : decode cL_shape 278 = .ok (.goto 4, 3) := by decide +kernel
theorem dL_shape_281 : decode cL_shape 281 = .ok (.iconst 0, 1) := by decide +kernel
theorem dL_shape_282 : decode cL_shape 282 = .ok (.aload 9, 2) := by decide +kernel
theorem dL_shape_284 : decode cL_shape 284 = .ok (.aload 10, 2) := by decide +kernel
theorem dL_shape_286 : decode cL_shape 286 = .ok (.aload 11, 2) := by decide +kernel
theorem dL_shape_288 : decode cL_shape 288 = .ok (.aload 12, 2) := by decide +kernel
theorem dL_shape_290 : decode cL_shape 290 = .ok (.aload 13, 2) := by decide +kernel
theorem dL_shape_292 : decode cL_shape 292 = .ok (.invokestatic 217, 3) := by decide +kernel
theorem dL_shape_295 : decode cL_shape 295 = .ok (.iload 15, 2) := by decide +kernel
theorem dL_shape_297 : decode cL_shape 297 = .ok (.aload 4, 2) := by decide +kernel
theorem dL_shape_299 : decode cL_shape 299 = .ok (.bipush 11, 2) := by decide +kernel
theorem dL_shape_301 : decode cL_shape 301 = .ok (.iaload, 1) := by decide +kernel
theorem dL_shape_302 : decode cL_shape 302 = .ok (.iadd, 1) := by decide +kernel
theorem dL_shape_303 : decode cL_shape 303 = .ok (.istore 15, 2) := by decide +kernel
theorem dL_shape_305 : decode cL_shape 305 = .ok (.iload 18, 2) := by decide +kernel
theorem dL_shape_307 : decode cL_shape 307 = .ok (.istore 17, 2) := by decide +kernel
theorem dL_shape_309 : decode cL_shape 309 = .ok (.goto (-244), 3) := by decide +kernel
theorem dL_shape_312 : decode cL_shape 312 = .ok (.aload 14, 2) := by decide +kernel
theorem dL_shape_314 : decode cL_shape 314 = .ok (.aload 4, 2) := by decide +kernel
theorem dL_shape_316 : decode cL_shape 316 = .ok (.bipush 9, 2) := by decide +kernel
theorem dL_shape_318 : decode cL_shape 318 = .ok (.iaload, 1) := by decide +kernel
theorem dL_shape_319 : decode cL_shape 319 = .ok (.iload 8, 2) := by decide +kernel
theorem dL_shape_321 : decode cL_shape 321 = .ok (.iastore, 1) := by decide +kernel
theorem dL_shape_322 : decode cL_shape 322 = .ok (.aload 14, 2) := by decide +kernel
theorem dL_shape_324 : decode cL_shape 324 = .ok (.bipush 20, 2) := by decide +kernel
theorem dL_shape_326 : decode cL_shape 326 = .ok (.aload 4, 2) := by decide +kernel
theorem dL_shape_328 : decode cL_shape 328 = .ok (.bipush 9, 2) := by decide +kernel
theorem dL_shape_330 : decode cL_shape 330 = .ok (.iaload, 1) := by decide +kernel
theorem dL_shape_331 : decode cL_shape 331 = .ok (.iadd, 1) := by decide +kernel
theorem dL_shape_332 : decode cL_shape 332 = .ok (.aload 4, 2) := by decide +kernel
theorem dL_shape_334 : decode cL_shape 334 = .ok (.bipush 8, 2) := by decide +kernel
theorem dL_shape_336 : decode cL_shape 336 = .ok (.iaload, 1) := by decide +kernel
theorem dL_shape_337 : decode cL_shape 337 = .ok (.iastore, 1) := by decide +kernel
theorem dL_shape_338 : decode cL_shape 338 = .ok (.aload 14, 2) := by decide +kernel
theorem dL_shape_340 : decode cL_shape 340 = .ok (.bipush 40, 2) := by decide +kernel
theorem dL_shape_342 : decode cL_shape 342 = .ok (.aload 4, 2) := by decide +kernel
theorem dL_shape_344 : decode cL_shape 344 = .ok (.bipush 9, 2) := by decide +kernel
theorem dL_shape_346 : decode cL_shape 346 = .ok (.iaload, 1) := by decide +kernel
theorem dL_shape_347 : decode cL_shape 347 = .ok (.iadd, 1) := by decide +kernel
theorem dL_shape_348 : decode cL_shape 348 = .ok (.iload 15, 2) := by decide +kernel
theorem dL_shape_350 : decode cL_shape 350 = .ok (.iastore, 1) := by decide +kernel
theorem dL_shape_351 : decode cL_shape 351 = .ok (.return_, 1) := by decide +kernel
theorem dL_runOf_0 : decode cL_runOf 0 = .ok (.iconst 0, 1) := by decide +kernel
theorem dL_runOf_1 : decode cL_runOf 1 = .ok (.istore_n 2, 1) := by decide +kernel
theorem dL_runOf_2 : decode cL_runOf 2 = .ok (.aload_n 0, 1) := by decide +kernel
theorem dL_runOf_3 : decode cL_runOf 3 = .ok (.iload_n 2, 1) := by decide +kernel
theorem dL_runOf_4 : decode cL_runOf 4 = .ok (.iconst 1, 1) := by decide +kernel
theorem dL_runOf_5 : decode cL_runOf 5 = .ok (.iadd, 1) := by decide +kernel
theorem dL_runOf_6 : decode cL_runOf 6 = .ok (.iaload, 1) := by decide +kernel
theorem dL_runOf_7 : decode cL_runOf 7 = .ok (.bipush 100, 2) := by decide +kernel
theorem dL_runOf_9 : decode cL_runOf 9 = .ok (.irem, 1) := by decide +kernel
theorem dL_runOf_10 : decode cL_runOf 10 = .ok (.iload_n 1, 1) := by decide +kernel
theorem dL_runOf_11 : decode cL_runOf 11 = .ok (.if_icmp .gt 9, 3) := by decide +kernel
theorem dL_runOf_14 : decode cL_runOf 14 = .ok (.iinc 2 1, 3) := by decide +kernel
theorem dL_runOf_17 : decode cL_runOf 17 = .ok (.goto (-15), 3) := by decide +kernel
theorem dL_runOf_20 : decode cL_runOf 20 = .ok (.iload_n 2, 1) := by decide +kernel
theorem dL_runOf_21 : decode cL_runOf 21 = .ok (.ireturn, 1) := by decide +kernel
theorem dL_clusterOf_0 : decode cL_clusterOf 0 = .ok (.aload_n 1, 1) := by decide +kernel
theorem dL_clusterOf_1 : decode cL_clusterOf 1 = .ok (.iload_n 2, 1) := by decide +kernel
theorem dL_clusterOf_2 : decode cL_clusterOf 2 = .ok (.invokestatic 221, 3) := by decide +kernel
theorem dL_clusterOf_5 : decode cL_clusterOf 5 = .ok (.istore_n 3, 1) := by decide +kernel
theorem dL_clusterOf_6 : decode cL_clusterOf 6 = .ok (.iconst (-1), 1) := by decide +kernel
theorem dL_clusterOf_7 : decode cL_clusterOf 7 = .ok (.istore 4, 2) := by decide +kernel
theorem dL_clusterOf_9 : decode cL_clusterOf 9 = .ok (.aload_n 1, 1) := by decide +kernel
theorem dL_clusterOf_10 : decode cL_clusterOf 10 = .ok (.iload_n 3, 1) := by decide +kernel
theorem dL_clusterOf_11 : decode cL_clusterOf 11 = .ok (.iconst 1, 1) := by decide +kernel
theorem dL_clusterOf_12 : decode cL_clusterOf 12 = .ok (.iadd, 1) := by decide +kernel
theorem dL_clusterOf_13 : decode cL_clusterOf 13 = .ok (.iaload, 1) := by decide +kernel
theorem dL_clusterOf_14 : decode cL_clusterOf 14 = .ok (.bipush 100, 2) := by decide +kernel
theorem dL_clusterOf_16 : decode cL_clusterOf 16 = .ok (.irem, 1) := by decide +kernel
theorem dL_clusterOf_17 : decode cL_clusterOf 17 = .ok (.istore 5, 2) := by decide +kernel
theorem dL_clusterOf_19 : decode cL_clusterOf 19 = .ok (.aload_n 1, 1) := by decide +kernel
theorem dL_clusterOf_20 : decode cL_clusterOf 20 = .ok (.bipush 20, 2) := by decide +kernel
theorem dL_clusterOf_22 : decode cL_clusterOf 22 = .ok (.iload_n 3, 1) := by decide +kernel
theorem dL_clusterOf_23 : decode cL_clusterOf 23 = .ok (.iadd, 1) := by decide +kernel
theorem dL_clusterOf_24 : decode cL_clusterOf 24 = .ok (.iaload, 1) := by decide +kernel
theorem dL_clusterOf_25 : decode cL_clusterOf 25 = .ok (.istore 6, 2) := by decide +kernel
theorem dL_clusterOf_27 : decode cL_clusterOf 27 = .ok (.iload 6, 2) := by decide +kernel
theorem dL_clusterOf_29 : decode cL_clusterOf 29 = .ok (.aload_n 1, 1) := by decide +kernel
theorem dL_clusterOf_30 : decode cL_clusterOf 30 = .ok (.bipush 21, 2) := by decide +kernel
theorem dL_clusterOf_32 : decode cL_clusterOf 32 = .ok (.iload_n 3, 1) := by decide +kernel
theorem dL_clusterOf_33 : decode cL_clusterOf 33 = .ok (.iadd, 1) := by decide +kernel
theorem dL_clusterOf_34 : decode cL_clusterOf 34 = .ok (.iaload, 1) := by decide +kernel
theorem dL_clusterOf_35 : decode cL_clusterOf 35 = .ok (.if_icmp .ge 52, 3) := by decide +kernel
theorem dL_clusterOf_38 : decode cL_clusterOf 38 = .ok (.aload_n 0, 1) := by decide +kernel
theorem dL_clusterOf_39 : decode cL_clusterOf 39 = .ok (.iload 6, 2) := by decide +kernel
theorem dL_clusterOf_41 : decode cL_clusterOf 41 = .ok (.iaload, 1) := by decide +kernel
theorem dL_clusterOf_42 : decode cL_clusterOf 42 = .ok (.bipush 8, 2) := by decide +kernel
theorem dL_clusterOf_44 : decode cL_clusterOf 44 = .ok (.ishr, 1) := by decide +kernel
theorem dL_clusterOf_45 : decode cL_clusterOf 45 = .ok (.istore 7, 2) := by decide +kernel
theorem dL_clusterOf_47 : decode cL_clusterOf 47 = .ok (.iload 7, 2) := by decide +kernel
theorem dL_clusterOf_49 : decode cL_clusterOf 49 = .ok (.iload_n 2, 1) := by decide +kernel
theorem dL_clusterOf_50 : decode cL_clusterOf 50 = .ok (.if_icmp .gt 14, 3) := by decide +kernel
theorem dL_clusterOf_53 : decode cL_clusterOf 53 = .ok (.iload 7, 2) := by decide +kernel
theorem dL_clusterOf_55 : decode cL_clusterOf 55 = .ok (.iload 4, 2) := by decide +kernel
theorem dL_clusterOf_57 : decode cL_clusterOf 57 = .ok (.if_icmp .le 7, 3) := by decide +kernel
theorem dL_clusterOf_60 : decode cL_clusterOf 60 = .ok (.iload 7, 2) := by decide +kernel
theorem dL_clusterOf_62 : decode cL_clusterOf 62 = .ok (.istore 4, 2) := by decide +kernel
theorem dL_clusterOf_64 : decode cL_clusterOf 64 = .ok (.iload 7, 2) := by decide +kernel
theorem dL_clusterOf_66 : decode cL_clusterOf 66 = .ok (.iload_n 2, 1) := by decide +kernel
theorem dL_clusterOf_67 : decode cL_clusterOf 67 = .ok (.if_icmp .le 14, 3) := by decide +kernel
theorem dL_clusterOf_70 : decode cL_clusterOf 70 = .ok (.iload 7, 2) := by decide +kernel
theorem dL_clusterOf_72 : decode cL_clusterOf 72 = .ok (.iload 5, 2) := by decide +kernel
theorem dL_clusterOf_74 : decode cL_clusterOf 74 = .ok (.if_icmp .ge 7, 3) := by decide +kernel
theorem dL_clusterOf_77 : decode cL_clusterOf 77 = .ok (.iload 7, 2) := by decide +kernel
theorem dL_clusterOf_79 : decode cL_clusterOf 79 = .ok (.istore 5, 2) := by decide +kernel
theorem dL_clusterOf_81 : decode cL_clusterOf 81 = .ok (.iinc 6 1, 3) := by decide +kernel
theorem dL_clusterOf_84 : decode cL_clusterOf 84 = .ok (.goto (-57), 3) := by decide +kernel
theorem dL_clusterOf_87 : decode cL_clusterOf 87 = .ok (.iload 4, 2) := by decide +kernel
theorem dL_clusterOf_89 : decode cL_clusterOf 89 = .ok (.ifCond .ge 7, 3) := by decide +kernel
theorem dL_clusterOf_92 : decode cL_clusterOf 92 = .ok (.iconst (-1), 1) := by decide +kernel
theorem dL_clusterOf_93 : decode cL_clusterOf 93 = .ok (.goto 11, 3) := by decide +kernel
theorem dL_clusterOf_96 : decode cL_clusterOf 96 = .ok (.iload 4, 2) := by decide +kernel
theorem dL_clusterOf_98 : decode cL_clusterOf 98 = .ok (.bipush 100, 2) := by decide +kernel
theorem dL_clusterOf_100 : decode cL_clusterOf 100 = .ok (.iload 5, 2) := by decide +kernel
theorem dL_clusterOf_102 : decode cL_clusterOf 102 = .ok (.imul, 1) := by decide +kernel
theorem dL_clusterOf_103 : decode cL_clusterOf 103 = .ok (.iadd, 1) := by decide +kernel
theorem dL_clusterOf_104 : decode cL_clusterOf 104 = .ok (.ireturn, 1) := by decide +kernel
theorem dL_caretOf_0 : decode cL_caretOf 0 = .ok (.aload_n 2, 1) := by decide +kernel
theorem dL_caretOf_1 : decode cL_caretOf 1 = .ok (.iload_n 3, 1) := by decide +kernel
theorem dL_caretOf_2 : decode cL_caretOf 2 = .ok (.invokestatic 221, 3) := by decide +kernel
theorem dL_caretOf_5 : decode cL_caretOf 5 = .ok (.istore 4, 2) := by decide +kernel
theorem dL_caretOf_7 : decode cL_caretOf 7 = .ok (.aload_n 2, 1) := by decide +kernel
theorem dL_caretOf_8 : decode cL_caretOf 8 = .ok (.iload 4, 2) := by decide +kernel
theorem dL_caretOf_10 : decode cL_caretOf 10 = .ok (.iaload, 1) := by decide +kernel
theorem dL_caretOf_11 : decode cL_caretOf 11 = .ok (.bipush 100, 2) := by decide +kernel
theorem dL_caretOf_13 : decode cL_caretOf 13 = .ok (.if_icmp .ge 7, 3) := by decide +kernel
theorem dL_caretOf_16 : decode cL_caretOf 16 = .ok (.iconst 1, 1) := by decide +kernel
theorem dL_caretOf_17 : decode cL_caretOf 17 = .ok (.goto 4, 3) := by decide +kernel
theorem dL_caretOf_20 : decode cL_caretOf 20 = .ok (.iconst 0, 1) := by decide +kernel
theorem dL_caretOf_21 : decode cL_caretOf 21 = .ok (.istore 5, 2) := by decide +kernel
theorem dL_caretOf_23 : decode cL_caretOf 23 = .ok (.aload_n 0, 1) := by decide +kernel
theorem dL_caretOf_24 : decode cL_caretOf 24 = .ok (.aload_n 2, 1) := by decide +kernel
theorem dL_caretOf_25 : decode cL_caretOf 25 = .ok (.iload_n 3, 1) := by decide +kernel
theorem dL_caretOf_26 : decode cL_caretOf 26 = .ok (.invokestatic 225, 3) := by decide +kernel
theorem dL_caretOf_29 : decode cL_caretOf 29 = .ok (.istore 6, 2) := by decide +kernel
theorem dL_caretOf_31 : decode cL_caretOf 31 = .ok (.iconst 0, 1) := by decide +kernel
theorem dL_caretOf_32 : decode cL_caretOf 32 = .ok (.istore 7, 2) := by decide +kernel
theorem dL_caretOf_34 : decode cL_caretOf 34 = .ok (.iload 6, 2) := by decide +kernel
theorem dL_caretOf_36 : decode cL_caretOf 36 = .ok (.ifCond .lt 130, 3) := by decide +kernel
theorem dL_caretOf_39 : decode cL_caretOf 39 = .ok (.iload 6, 2) := by decide +kernel
theorem dL_caretOf_41 : decode cL_caretOf 41 = .ok (.bipush 100, 2) := by decide +kernel
theorem dL_caretOf_43 : decode cL_caretOf 43 = .ok (.irem, 1) := by decide +kernel
theorem dL_caretOf_44 : decode cL_caretOf 44 = .ok (.istore 8, 2) := by decide +kernel
theorem dL_caretOf_46 : decode cL_caretOf 46 = .ok (.iconst 0, 1) := by decide +kernel
theorem dL_caretOf_47 : decode cL_caretOf 47 = .ok (.istore 9, 2) := by decide +kernel
theorem dL_caretOf_49 : decode cL_caretOf 49 = .ok (.aload_n 2, 1) := by decide +kernel
theorem dL_caretOf_50 : decode cL_caretOf 50 = .ok (.bipush 20, 2) := by decide +kernel
theorem dL_caretOf_52 : decode cL_caretOf 52 = .ok (.iload 4, 2) := by decide +kernel
theorem dL_caretOf_54 : decode cL_caretOf 54 = .ok (.iadd, 1) := by decide +kernel
theorem dL_caretOf_55 : decode cL_caretOf 55 = .ok (.iaload, 1) := by decide +kernel
theorem dL_caretOf_56 : decode cL_caretOf 56 = .ok (.istore 10, 2) := by decide +kernel
theorem dL_caretOf_58 : decode cL_caretOf 58 = .ok (.iload 10, 2) := by decide +kernel
theorem dL_caretOf_60 : decode cL_caretOf 60 = .ok (.aload_n 2, 1) := by decide +kernel
theorem dL_caretOf_61 : decode cL_caretOf 61 = .ok (.bipush 21, 2) := by decide +kernel
theorem dL_caretOf_63 : decode cL_caretOf 63 = .ok (.iload 4, 2) := by decide +kernel
theorem dL_caretOf_65 : decode cL_caretOf 65 = .ok (.iadd, 1) := by decide +kernel
theorem dL_caretOf_66 : decode cL_caretOf 66 = .ok (.iaload, 1) := by decide +kernel
theorem dL_caretOf_67 : decode cL_caretOf 67 = .ok (.if_icmp .ge 51, 3) := by decide +kernel
theorem dL_caretOf_70 : decode cL_caretOf 70 = .ok (.aload_n 0, 1) := by decide +kernel
theorem dL_caretOf_71 : decode cL_caretOf 71 = .ok (.iload 10, 2) := by decide +kernel
theorem dL_caretOf_73 : decode cL_caretOf 73 = .ok (.iaload, 1) := by decide +kernel
theorem dL_caretOf_74 : decode cL_caretOf 74 = .ok (.bipush 8, 2) := by decide +kernel
theorem dL_caretOf_76 : decode cL_caretOf 76 = .ok (.ishr, 1) := by decide +kernel
theorem dL_caretOf_77 : decode cL_caretOf 77 = .ok (.iload 8, 2) := by decide +kernel
theorem dL_caretOf_79 : decode cL_caretOf 79 = .ok (.if_icmp .ge 12, 3) := by decide +kernel
theorem dL_caretOf_82 : decode cL_caretOf 82 = .ok (.iload 7, 2) := by decide +kernel
theorem dL_caretOf_84 : decode cL_caretOf 84 = .ok (.aload_n 1, 1) := by decide +kernel
theorem dL_caretOf_85 : decode cL_caretOf 85 = .ok (.iload 10, 2) := by decide +kernel
theorem dL_caretOf_87 : decode cL_caretOf 87 = .ok (.iaload, 1) := by decide +kernel
theorem dL_caretOf_88 : decode cL_caretOf 88 = .ok (.iadd, 1) := by decide +kernel
theorem dL_caretOf_89 : decode cL_caretOf 89 = .ok (.istore 7, 2) := by decide +kernel
theorem dL_caretOf_91 : decode cL_caretOf 91 = .ok (.aload_n 0, 1) := by decide +kernel
theorem dL_caretOf_92 : decode cL_caretOf 92 = .ok (.iload 10, 2) := by decide +kernel
theorem dL_caretOf_94 : decode cL_caretOf 94 = .ok (.iaload, 1) := by decide +kernel
theorem dL_caretOf_95 : decode cL_caretOf 95 = .ok (.bipush 8, 2) := by decide +kernel
theorem dL_caretOf_97 : decode cL_caretOf 97 = .ok (.ishr, 1) := by decide +kernel
theorem dL_caretOf_98 : decode cL_caretOf 98 = .ok (.iload 8, 2) := by decide +kernel
theorem dL_caretOf_100 : decode cL_caretOf 100 = .ok (.if_icmp .ne 12, 3) := by decide +kernel
theorem dL_caretOf_103 : decode cL_caretOf 103 = .ok (.iload 9, 2) := by decide +kernel
theorem dL_caretOf_105 : decode cL_caretOf 105 = .ok (.aload_n 1, 1) := by decide +kernel
theorem dL_caretOf_106 : decode cL_caretOf 106 = .ok (.iload 10, 2) := by decide +kernel
theorem dL_caretOf_108 : decode cL_caretOf 108 = .ok (.iaload, 1) := by decide +kernel
theorem dL_caretOf_109 : decode cL_caretOf 109 = .ok (.iadd, 1) := by decide +kernel
theorem dL_caretOf_110 : decode cL_caretOf 110 = .ok (.istore 9, 2) := by decide +kernel
theorem dL_caretOf_112 : decode cL_caretOf 112 = .ok (.iinc 10 1, 3) := by decide +kernel
theorem dL_caretOf_115 : decode cL_caretOf 115 = .ok (.goto (-57), 3) := by decide +kernel
theorem dL_caretOf_118 : decode cL_caretOf 118 = .ok (.iload 6, 2) := by decide +kernel
theorem dL_caretOf_120 : decode cL_caretOf 120 = .ok (.bipush 100, 2) := by decide +kernel
theorem dL_caretOf_122 : decode cL_caretOf 122 = .ok (.idiv, 1) := by decide +kernel
theorem dL_caretOf_123 : decode cL_caretOf 123 = .ok (.iload 8, 2) := by decide +kernel
theorem dL_caretOf_125 : decode cL_caretOf 125 = .ok (.isub, 1) := by decide +kernel
theorem dL_caretOf_126 : decode cL_caretOf 126 = .ok (.istore 10, 2) := by decide +kernel
theorem dL_caretOf_128 : decode cL_caretOf 128 = .ok (.iload 9, 2) := by decide +kernel
theorem dL_caretOf_130 : decode cL_caretOf 130 = .ok (.iload_n 3, 1) := by decide +kernel
theorem dL_caretOf_131 : decode cL_caretOf 131 = .ok (.iload 8, 2) := by decide +kernel
theorem dL_caretOf_133 : decode cL_caretOf 133 = .ok (.isub, 1) := by decide +kernel
theorem dL_caretOf_134 : decode cL_caretOf 134 = .ok (.imul, 1) := by decide +kernel
theorem dL_caretOf_135 : decode cL_caretOf 135 = .ok (.istore 11, 2) := by decide +kernel
theorem dL_caretOf_137 : decode cL_caretOf 137 = .ok (.iload 7, 2) := by decide +kernel
theorem dL_caretOf_139 : decode cL_caretOf 139 = .ok (.iload 11, 2) := by decide +kernel
theorem dL_caretOf_141 : decode cL_caretOf 141 = .ok (.ifCond .ge 17, 3) := by decide +kernel
theorem dL_caretOf_144 : decode cL_caretOf 144 = .ok (.iload 10, 2) := by decide +kernel
theorem dL_caretOf_146 : decode cL_caretOf 146 = .ok (.iconst 1, 1) := by decide +kernel
theorem dL_caretOf_147 : decode cL_caretOf 147 = .ok (.isub, 1) := by decide +kernel
theorem dL_caretOf_148 : decode cL_caretOf 148 = .ok (.iload 11, 2) := by decide +kernel
theorem dL_caretOf_150 : decode cL_caretOf 150 = .ok (.isub, 1) := by decide +kernel
theorem dL_caretOf_151 : decode cL_caretOf 151 = .ok (.iload 10, 2) := by decide +kernel
theorem dL_caretOf_153 : decode cL_caretOf 153 = .ok (.idiv, 1) := by decide +kernel
theorem dL_caretOf_154 : decode cL_caretOf 154 = .ok (.ineg, 1) := by decide +kernel
theorem dL_caretOf_155 : decode cL_caretOf 155 = .ok (.goto 8, 3) := by decide +kernel
theorem dL_caretOf_158 : decode cL_caretOf 158 = .ok (.iload 11, 2) := by decide +kernel
theorem dL_caretOf_160 : decode cL_caretOf 160 = .ok (.iload 10, 2) := by decide +kernel
theorem dL_caretOf_162 : decode cL_caretOf 162 = .ok (.idiv, 1) := by decide +kernel
theorem dL_caretOf_163 : decode cL_caretOf 163 = .ok (.iadd, 1) := by decide +kernel
theorem dL_caretOf_164 : decode cL_caretOf 164 = .ok (.istore 7, 2) := by decide +kernel
theorem dL_caretOf_166 : decode cL_caretOf 166 = .ok (.iload 5, 2) := by decide +kernel
theorem dL_caretOf_168 : decode cL_caretOf 168 = .ok (.ifCond .eq 16, 3) := by decide +kernel
theorem dL_caretOf_171 : decode cL_caretOf 171 = .ok (.aload_n 2, 1) := by decide +kernel
theorem dL_caretOf_172 : decode cL_caretOf 172 = .ok (.bipush 41, 2) := by decide +kernel
theorem dL_caretOf_174 : decode cL_caretOf 174 = .ok (.iload 4, 2) := by decide +kernel
theorem dL_caretOf_176 : decode cL_caretOf 176 = .ok (.iadd, 1) := by decide +kernel
theorem dL_caretOf_177 : decode cL_caretOf 177 = .ok (.iaload, 1) := by decide +kernel
theorem dL_caretOf_178 : decode cL_caretOf 178 = .ok (.iload 7, 2) := by decide +kernel
theorem dL_caretOf_180 : decode cL_caretOf 180 = .ok (.isub, 1) := by decide +kernel
theorem dL_caretOf_181 : decode cL_caretOf 181 = .ok (.goto 13, 3) := by decide +kernel
theorem dL_caretOf_184 : decode cL_caretOf 184 = .ok (.aload_n 2, 1) := by decide +kernel
theorem dL_caretOf_185 : decode cL_caretOf 185 = .ok (.bipush 40, 2) := by decide +kernel
theorem dL_caretOf_187 : decode cL_caretOf 187 = .ok (.iload 4, 2) := by decide +kernel
theorem dL_caretOf_189 : decode cL_caretOf 189 = .ok (.iadd, 1) := by decide +kernel
theorem dL_caretOf_190 : decode cL_caretOf 190 = .ok (.iaload, 1) := by decide +kernel
theorem dL_caretOf_191 : decode cL_caretOf 191 = .ok (.iload 7, 2) := by decide +kernel
theorem dL_caretOf_193 : decode cL_caretOf 193 = .ok (.iadd, 1) := by decide +kernel
theorem dL_caretOf_194 : decode cL_caretOf 194 = .ok (.ireturn, 1) := by decide +kernel
theorem dL_textTold_0 : decode cL_textTold 0 = .ok (.iconst (-1), 1) := by decide +kernel
theorem dL_textTold_1 : decode cL_textTold 1 = .ok (.istore 12, 2) := by decide +kernel
theorem dL_textTold_3 : decode cL_textTold 3 = .ok (.iload_n 1, 1) := by decide +kernel
theorem dL_textTold_4 : decode cL_textTold 4 = .ok (.sipush 200, 3) := by decide +kernel
theorem dL_textTold_7 : decode cL_textTold 7 = .ok (.invokestatic 229, 3) := by decide +kernel
theorem dL_textTold_10 : decode cL_textTold 10 = .ok (.bipush 20, 2) := by decide +kernel
theorem dL_textTold_12 : decode cL_textTold 12 = .ok (.isub, 1) := by decide +kernel
theorem dL_textTold_13 : decode cL_textTold 13 = .ok (.istore 13, 2) := by decide +kernel
theorem dL_textTold_15 : decode cL_textTold 15 = .ok (.iconst 0, 1) := by decide +kernel
theorem dL_textTold_16 : decode cL_textTold 16 = .ok (.istore 14, 2) := by decide +kernel
theorem dL_textTold_18 : decode cL_textTold 18 = .ok (.bipush 16, 2) := by decide +kernel
theorem dL_textTold_20 : decode cL_textTold 20 = .ok (.newarray .int, 2) := by decide +kernel
theorem dL_textTold_22 : decode cL_textTold 22 = .ok (.astore 15, 2) := by decide +kernel
theorem dL_textTold_24 : decode cL_textTold 24 = .ok (.iconst 0, 1) := by decide +kernel
theorem dL_textTold_25 : decode cL_textTold 25 = .ok (.istore 16, 2) := by decide +kernel
theorem dL_textTold_27 : decode cL_textTold 27 = .ok (.iload 16, 2) := by decide +kernel
theorem dL_textTold_29 : decode cL_textTold 29 = .ok (.aload 6, 2) := by decide +kernel
theorem dL_textTold_31 : decode cL_textTold 31 = .ok (.iconst 1, 1) := by decide +kernel
theorem dL_textTold_32 : decode cL_textTold 32 = .ok (.iaload, 1) := by decide +kernel
theorem dL_textTold_33 : decode cL_textTold 33 = .ok (.if_icmp .ge 276, 3) := by decide +kernel
theorem dL_textTold_36 : decode cL_textTold 36 = .ok (.aload 11, 2) := by decide +kernel
theorem dL_textTold_38 : decode cL_textTold 38 = .ok (.iload 16, 2) := by decide +kernel
theorem dL_textTold_40 : decode cL_textTold 40 = .ok (.invokestatic 221, 3) := by decide +kernel
theorem dL_textTold_43 : decode cL_textTold 43 = .ok (.istore 17, 2) := by decide +kernel
theorem dL_textTold_45 : decode cL_textTold 45 = .ok (.aload 9, 2) := by decide +kernel
theorem dL_textTold_47 : decode cL_textTold 47 = .ok (.aload 10, 2) := by decide +kernel
theorem dL_textTold_49 : decode cL_textTold 49 = .ok (.aload 11, 2) := by decide +kernel
theorem dL_textTold_51 : decode cL_textTold 51 = .ok (.iload 16, 2) := by decide +kernel
theorem dL_textTold_53 : decode cL_textTold 53 = .ok (.invokestatic 232, 3) := by decide +kernel
theorem dL_textTold_56 : decode cL_textTold 56 = .ok (.istore 18, 2) := by decide +kernel
theorem dL_textTold_58 : decode cL_textTold 58 = .ok (.aload_n 2, 1) := by decide +kernel
theorem dL_textTold_59 : decode cL_textTold 59 = .ok (.aload 11, 2) := by decide +kernel
theorem dL_textTold_61 : decode cL_textTold 61 = .ok (.iload 17, 2) := by decide +kernel
theorem dL_textTold_63 : decode cL_textTold 63 = .ok (.iaload, 1) := by decide +kernel
theorem dL_textTold_64 : decode cL_textTold 64 = .ok (.bipush 100, 2) := by decide +kernel
theorem dL_textTold_66 : decode cL_textTold 66 = .ok (.irem, 1) := by decide +kernel
theorem dL_textTold_67 : decode cL_textTold 67 = .ok (.aload 11, 2) := by decide +kernel
theorem dL_textTold_69 : decode cL_textTold 69 = .ok (.iload 17, 2) := by decide +kernel
theorem dL_textTold_71 : decode cL_textTold 71 = .ok (.iconst 1, 1) := by decide +kernel
theorem dL_textTold_72 : decode cL_textTold 72 = .ok (.iadd, 1) := by decide +kernel
theorem dL_textTold_73 : decode cL_textTold 73 = .ok (.iaload, 1) := by decide +kernel
theorem dL_textTold_74 : decode cL_textTold 74 = .ok (.bipush 100, 2) := by decide +kernel
theorem dL_textTold_76 : decode cL_textTold 76 = .ok (.irem, 1) := by decide +kernel
theorem dL_textTold_77 : decode cL_textTold 77 = .ok (.iload 16, 2) := by decide +kernel
theorem dL_textTold_79 : decode cL_textTold 79 = .ok (.invokestatic 198, 3) := by decide +kernel
theorem dL_textTold_82 : decode cL_textTold 82 = .ok (.istore 19, 2) := by decide +kernel
theorem dL_textTold_84 : decode cL_textTold 84 = .ok (.aload_n 0, 1) := by decide +kernel
theorem dL_textTold_85 : decode cL_textTold 85 = .ok (.iload 16, 2) := by decide +kernel
theorem dL_textTold_87 : decode cL_textTold 87 = .ok (.invokestatic 236, 3) := by decide +kernel
theorem dL_textTold_90 : decode cL_textTold 90 = .ok (.bipush 100, 2) := by decide +kernel
theorem dL_textTold_92 : decode cL_textTold 92 = .ok (.iload 17, 2) := by decide +kernel
theorem dL_textTold_94 : decode cL_textTold 94 = .ok (.imul, 1) := by decide +kernel
theorem dL_textTold_95 : decode cL_textTold 95 = .ok (.aload 11, 2) := by decide +kernel
theorem dL_textTold_97 : decode cL_textTold 97 = .ok (.iload 17, 2) := by decide +kernel
theorem dL_textTold_99 : decode cL_textTold 99 = .ok (.iaload, 1) := by decide +kernel
theorem dL_textTold_100 : decode cL_textTold 100 = .ok (.bipush 100, 2) := by decide +kernel
theorem dL_textTold_102 : decode cL_textTold 102 = .ok (.idiv, 1) := by decide +kernel
theorem dL_textTold_103 : decode cL_textTold 103 = .ok (.bipush 10, 2) := by decide +kernel
theorem dL_textTold_105 : decode cL_textTold 105 = .ok (.imul, 1) := by decide +kernel
theorem dL_textTold_106 : decode cL_textTold 106 = .ok (.iadd, 1) := by decide +kernel
theorem dL_textTold_107 : decode cL_textTold 107 = .ok (.lload 7, 2) := by decide +kernel
theorem dL_textTold_109 : decode cL_textTold 109 = .ok (.aload_n 2, 1) := by decide +kernel
theorem dL_textTold_110 : decode cL_textTold 110 = .ok (.iload 16, 2) := by decide +kernel
theorem dL_textTold_112 : decode cL_textTold 112 = .ok (.iaload, 1) := by decide +kernel
theorem dL_textTold_113 : decode cL_textTold 113 = .ok (.bipush 63, 2) := by decide +kernel
theorem dL_textTold_115 : decode cL_textTold 115 = .ok (.iand, 1) := by decide +kernel
theorem dL_textTold_116 : decode cL_textTold 116 = .ok (.lshr, 1) := by decide +kernel
theorem dL_textTold_117 : decode cL_textTold 117 = .ok (.lconst 1, 1) := by decide +kernel
theorem dL_textTold_118 : decode cL_textTold 118 = .ok (.land, 1) := by decide +kernel
theorem dL_textTold_119 : decode cL_textTold 119 = .ok (.l2i, 1) := by decide +kernel
theorem dL_textTold_120 : decode cL_textTold 120 = .ok (.iadd, 1) := by decide +kernel
theorem dL_textTold_121 : decode cL_textTold 121 = .ok (.if_icmp .ne 36, 3) := by decide +kernel
theorem dL_textTold_124 : decode cL_textTold 124 = .ok (.aload_n 0, 1) := by decide +kernel
theorem dL_textTold_125 : decode cL_textTold 125 = .ok (.iload 16, 2) := by decide +kernel
theorem dL_textTold_127 : decode cL_textTold 127 = .ok (.invokestatic 239, 3) := by decide +kernel
theorem dL_textTold_130 : decode cL_textTold 130 = .ok (.iload 19, 2) := by decide +kernel
theorem dL_textTold_132 : decode cL_textTold 132 = .ok (.iconst 4, 1) := by decide +kernel
theorem dL_textTold_133 : decode cL_textTold 133 = .ok (.if_icmp .ne 8, 3) := by decide +kernel
theorem dL_textTold_136 : decode cL_textTold 136 = .ok (.bipush (-100), 2) := by decide +kernel
theorem dL_textTold_138 : decode cL_textTold 138 = .ok (.goto 5, 3) := by decide +kernel
theorem dL_textTold_141 : decode cL_textTold 141 = .ok (.iload 19, 2) := by decide +kernel
theorem dL_textTold_143 : decode cL_textTold 143 = .ok (.if_icmp .ne 14, 3) := by decide +kernel
theorem dL_textTold_146 : decode cL_textTold 146 = .ok (.aload_n 0, 1) := by decide +kernel
theorem dL_textTold_147 : decode cL_textTold 147 = .ok (.iload 16, 2) := by decide +kernel
theorem dL_textTold_149 : decode cL_textTold 149 = .ok (.invokestatic 241, 3) := by decide +kernel
theorem dL_textTold_152 : decode cL_textTold 152 = .ok (.iload 18, 2) := by decide +kernel
theorem dL_textTold_154 : decode cL_textTold 154 = .ok (.if_icmp .eq 5, 3) := by decide +kernel
theorem dL_textTold_157 : decode cL_textTold 157 = .ok (.iconst 0, 1) := by decide +kernel
theorem dL_textTold_158 : decode cL_textTold 158 = .ok (.ireturn, 1) := by decide +kernel
theorem dL_textTold_159 : decode cL_textTold 159 = .ok (.iload 18, 2) := by decide +kernel
theorem dL_textTold_161 : decode cL_textTold 161 = .ok (.iload 13, 2) := by decide +kernel
theorem dL_textTold_163 : decode cL_textTold 163 = .ok (.if_icmp .ge 11, 3) := by decide +kernel
theorem dL_textTold_166 : decode cL_textTold 166 = .ok (.iload 13, 2) := by decide +kernel
theorem dL_textTold_168 : decode cL_textTold 168 = .ok (.iload 18, 2) := by decide +kernel
theorem dL_textTold_170 : decode cL_textTold 170 = .ok (.isub, 1) := by decide +kernel
theorem dL_textTold_171 : decode cL_textTold 171 = .ok (.goto 8, 3) := by decide +kernel
theorem dL_textTold_174 : decode cL_textTold 174 = .ok (.iload 18, 2) := by decide +kernel
theorem dL_textTold_176 : decode cL_textTold 176 = .ok (.iload 13, 2) := by decide +kernel
theorem dL_textTold_178 : decode cL_textTold 178 = .ok (.isub, 1) := by decide +kernel
theorem dL_textTold_179 : decode cL_textTold 179 = .ok (.istore 20, 2) := by decide +kernel
theorem dL_textTold_181 : decode cL_textTold 181 = .ok (.iload 12, 2) := by decide +kernel
theorem dL_textTold_183 : decode cL_textTold 183 = .ok (.ifCond .lt 10, 3) := by decide +kernel
theorem dL_textTold_186 : decode cL_textTold 186 = .ok (.iload 20, 2) := by decide +kernel
theorem dL_textTold_188 : decode cL_textTold 188 = .ok (.iload 14, 2) := by decide +kernel
theorem dL_textTold_190 : decode cL_textTold 190 = .ok (.if_icmp .ge 11, 3) := by decide +kernel
theorem dL_textTold_193 : decode cL_textTold 193 = .ok (.iload 16, 2) := by decide +kernel
theorem dL_textTold_195 : decode cL_textTold 195 = .ok (.istore 12, 2) := by decide +kernel
theorem dL_textTold_197 : decode cL_textTold 197 = .ok (.iload 20, 2) := by decide +kernel
theorem dL_textTold_199 : decode cL_textTold 199 = .ok (.istore 14, 2) := by decide +kernel
theorem dL_textTold_201 : decode cL_textTold 201 = .ok (.iload 16, 2) := by decide +kernel
theorem dL_textTold_203 : decode cL_textTold 203 = .ok (.iconst 1, 1) := by decide +kernel
theorem dL_textTold_204 : decode cL_textTold 204 = .ok (.iadd, 1) := by decide +kernel
theorem dL_textTold_205 : decode cL_textTold 205 = .ok (.istore 21, 2) := by decide +kernel
theorem dL_textTold_207 : decode cL_textTold 207 = .ok (.iload 21, 2) := by decide +kernel
theorem dL_textTold_209 : decode cL_textTold 209 = .ok (.aload 11, 2) := by decide +kernel
theorem dL_textTold_211 : decode cL_textTold 211 = .ok (.iload 17, 2) := by decide +kernel
theorem dL_textTold_213 : decode cL_textTold 213 = .ok (.iconst 1, 1) := by decide +kernel
theorem dL_textTold_214 : decode cL_textTold 214 = .ok (.iadd, 1) := by decide +kernel
theorem dL_textTold_215 : decode cL_textTold 215 = .ok (.iaload, 1) := by decide +kernel
theorem dL_textTold_216 : decode cL_textTold 216 = .ok (.bipush 100, 2) := by decide +kernel
theorem dL_textTold_218 : decode cL_textTold 218 = .ok (.irem, 1) := by decide +kernel
theorem dL_textTold_219 : decode cL_textTold 219 = .ok (.if_icmp .ge 22, 3) := by decide +kernel
theorem dL_textTold_222 : decode cL_textTold 222 = .ok (.aload_n 2, 1) := by decide +kernel
theorem dL_textTold_223 : decode cL_textTold 223 = .ok (.iload 21, 2) := by decide +kernel
theorem dL_textTold_225 : decode cL_textTold 225 = .ok (.iaload, 1) := by decide +kernel
theorem dL_textTold_226 : decode cL_textTold 226 = .ok (.bipush 63, 2) := by decide +kernel
theorem dL_textTold_228 : decode cL_textTold 228 = .ok (.iand, 1) := by decide +kernel
theorem dL_textTold_229 : decode cL_textTold 229 = .ok (.invokestatic 172, 3) := by decide +kernel
theorem dL_textTold_232 : decode cL_textTold 232 = .ok (.ifCond .eq 9, 3) := by decide +kernel
theorem dL_textTold_235 : decode cL_textTold 235 = .ok (.iinc 21 1, 3) := by decide +kernel
theorem dL_textTold_238 : decode cL_textTold 238 = .ok (.goto (-31), 3) := by decide +kernel
theorem dL_textTold_241 : decode cL_textTold 241 = .ok (.aload 15, 2) := by decide +kernel
theorem dL_textTold_243 : decode cL_textTold 243 = .ok (.iload 16, 2) := by decide +kernel
theorem dL_textTold_245 : decode cL_textTold 245 = .ok (.aload_n 2, 1) := by decide +kernel
theorem dL_textTold_246 : decode cL_textTold 246 = .ok (.iload 16, 2) := by decide +kernel
theorem dL_textTold_248 : decode cL_textTold 248 = .ok (.iaload, 1) := by decide +kernel
theorem dL_textTold_249 : decode cL_textTold 249 = .ok (.bipush 63, 2) := by decide +kernel
theorem dL_textTold_251 : decode cL_textTold 251 = .ok (.iand, 1) := by decide +kernel
theorem dL_textTold_252 : decode cL_textTold 252 = .ok (.invokestatic 175, 3) := by decide +kernel
theorem dL_textTold_255 : decode cL_textTold 255 = .ok (.ifCond .eq 46, 3) := by decide +kernel
theorem dL_textTold_258 : decode cL_textTold 258 = .ok (.iload 19, 2) := by decide +kernel
theorem dL_textTold_260 : decode cL_textTold 260 = .ok (.iconst 1, 1) := by decide +kernel
theorem dL_textTold_261 : decode cL_textTold 261 = .ok (.if_icmp .eq 9, 3) := by decide +kernel
theorem dL_textTold_264 : decode cL_textTold 264 = .ok (.iload 19, 2) := by decide +kernel
theorem dL_textTold_266 : decode cL_textTold 266 = .ok (.iconst 2, 1) := by decide +kernel
theorem dL_textTold_267 : decode cL_textTold 267 = .ok (.if_icmp .ne 34, 3) := by decide +kernel
theorem dL_textTold_270 : decode cL_textTold 270 = .ok (.aload 9, 2) := by decide +kernel
theorem dL_textTold_272 : decode cL_textTold 272 = .ok (.aload 11, 2) := by decide +kernel
theorem dL_textTold_274 : decode cL_textTold 274 = .ok (.iload 16, 2) := by decide +kernel
theorem dL_textTold_276 : decode cL_textTold 276 = .ok (.invokestatic 225, 3) := by decide +kernel
theorem dL_textTold_279 : decode cL_textTold 279 = .ok (.bipush 100, 2) := by decide +kernel
theorem dL_textTold_281 : decode cL_textTold 281 = .ok (.irem, 1) := by decide +kernel
theorem dL_textTold_282 : decode cL_textTold 282 = .ok (.aload 9, 2) := by decide +kernel
theorem dL_textTold_284 : decode cL_textTold 284 = .ok (.aload 11, 2) := by decide +kernel
theorem dL_textTold_286 : decode cL_textTold 286 = .ok (.iload 21, 2) := by decide +kernel
theorem dL_textTold_288 : decode cL_textTold 288 = .ok (.invokestatic 225, 3) := by decide +kernel
theorem dL_textTold_291 : decode cL_textTold 291 = .ok (.bipush 100, 2) := by decide +kernel
theorem dL_textTold_293 : decode cL_textTold 293 = .ok (.irem, 1) := by decide +kernel
theorem dL_textTold_294 : decode cL_textTold 294 = .ok (.if_icmp .eq 7, 3) := by decide +kernel
theorem dL_textTold_297 : decode cL_textTold 297 = .ok (.iconst 1, 1) := by decide +kernel
theorem dL_textTold_298 : decode cL_textTold 298 = .ok (.goto 4, 3) := by decide +kernel
theorem dL_textTold_301 : decode cL_textTold 301 = .ok (.iconst 0, 1) := by decide +kernel
theorem dL_textTold_302 : decode cL_textTold 302 = .ok (.iastore, 1) := by decide +kernel
theorem dL_textTold_303 : decode cL_textTold 303 = .ok (.iinc 16 1, 3) := by decide +kernel
theorem dL_textTold_306 : decode cL_textTold 306 = .ok (.goto (-279), 3) := by decide +kernel
theorem dL_textTold_309 : decode cL_textTold 309 = .ok (.aload_n 0, 1) := by decide +kernel
theorem dL_textTold_310 : decode cL_textTold 310 = .ok (.iload 13, 2) := by decide +kernel
theorem dL_textTold_312 : decode cL_textTold 312 = .ok (.invokestatic 243, 3) := by decide +kernel
theorem dL_textTold_315 : decode cL_textTold 315 = .ok (.iload 12, 2) := by decide +kernel
theorem dL_textTold_317 : decode cL_textTold 317 = .ok (.ifCond .ge 8, 3) := by decide +kernel
theorem dL_textTold_320 : decode cL_textTold 320 = .ok (.bipush (-100), 2) := by decide +kernel
theorem dL_textTold_322 : decode cL_textTold 322 = .ok (.goto 5, 3) := by decide +kernel
theorem dL_textTold_325 : decode cL_textTold 325 = .ok (.iload 12, 2) := by decide +kernel
theorem dL_textTold_327 : decode cL_textTold 327 = .ok (.if_icmp .ne 29, 3) := by decide +kernel
theorem dL_textTold_330 : decode cL_textTold 330 = .ok (.aload_n 0, 1) := by decide +kernel
theorem dL_textTold_331 : decode cL_textTold 331 = .ok (.sipush (-1001), 3) := by decide +kernel
theorem dL_textTold_334 : decode cL_textTold 334 = .ok (.invokestatic 243, 3) := by decide +kernel
theorem dL_textTold_337 : decode cL_textTold 337 = .ok (.sipush (-7200), 3) := by decide +kernel
theorem dL_textTold_340 : decode cL_textTold 340 = .ok (.if_icmp .ne 16, 3) := by decide +kernel
theorem dL_textTold_343 : decode cL_textTold 343 = .ok (.aload_n 0, 1) := by decide +kernel
theorem dL_textTold_344 : decode cL_textTold 344 = .ok (.sipush 10001, 3) := by decide +kernel
theorem dL_textTold_347 : decode cL_textTold 347 = .ok (.invokestatic 243, 3) := by decide +kernel
theorem dL_textTold_350 : decode cL_textTold 350 = .ok (.sipush (-7200), 3) := by decide +kernel
theorem dL_textTold_353 : decode cL_textTold 353 = .ok (.if_icmp .eq 5, 3) := by decide +kernel
theorem dL_textTold_356 : decode cL_textTold 356 = .ok (.iconst 0, 1) := by decide +kernel
theorem dL_textTold_357 : decode cL_textTold 357 = .ok (.ireturn, 1) := by decide +kernel
theorem dL_textTold_358 : decode cL_textTold 358 = .ok (.aload 11, 2) := by decide +kernel
theorem dL_textTold_360 : decode cL_textTold 360 = .ok (.bipush 40, 2) := by decide +kernel
theorem dL_textTold_362 : decode cL_textTold 362 = .ok (.aload 6, 2) := by decide +kernel
theorem dL_textTold_364 : decode cL_textTold 364 = .ok (.bipush 9, 2) := by decide +kernel
theorem dL_textTold_366 : decode cL_textTold 366 = .ok (.iaload, 1) := by decide +kernel
theorem dL_textTold_367 : decode cL_textTold 367 = .ok (.iadd, 1) := by decide +kernel
theorem dL_textTold_368 : decode cL_textTold 368 = .ok (.iaload, 1) := by decide +kernel
theorem dL_textTold_369 : decode cL_textTold 369 = .ok (.istore 16, 2) := by decide +kernel
theorem dL_textTold_371 : decode cL_textTold 371 = .ok (.iload 16, 2) := by decide +kernel
theorem dL_textTold_373 : decode cL_textTold 373 = .ok (.iload_n 1, 1) := by decide +kernel
theorem dL_textTold_374 : decode cL_textTold 374 = .ok (.bipush 8, 2) := by decide +kernel
theorem dL_textTold_376 : decode cL_textTold 376 = .ok (.ishr, 1) := by decide +kernel
theorem dL_textTold_377 : decode cL_textTold 377 = .ok (.bipush 70, 2) := by decide +kernel
theorem dL_textTold_379 : decode cL_textTold 379 = .ok (.invokestatic 229, 3) := by decide +kernel
theorem dL_textTold_382 : decode cL_textTold 382 = .ok (.iadd, 1) := by decide +kernel
theorem dL_textTold_383 : decode cL_textTold 383 = .ok (.bipush 6, 2) := by decide +kernel
theorem dL_textTold_385 : decode cL_textTold 385 = .ok (.isub, 1) := by decide +kernel
theorem dL_textTold_386 : decode cL_textTold 386 = .ok (.istore 17, 2) := by decide +kernel
theorem dL_textTold_388 : decode cL_textTold 388 = .ok (.iload 17, 2) := by decide +kernel
theorem dL_textTold_390 : decode cL_textTold 390 = .ok (.ifCond .ge 6, 3) := by decide +kernel
theorem dL_textTold_393 : decode cL_textTold 393 = .ok (.iconst 0, 1) := by decide +kernel
theorem dL_textTold_394 : decode cL_textTold 394 = .ok (.istore 17, 2) := by decide +kernel
theorem dL_textTold_396 : decode cL_textTold 396 = .ok (.aload_n 0, 1) := by decide +kernel
theorem dL_textTold_397 : decode cL_textTold 397 = .ok (.aload_n 2, 1) := by decide +kernel
theorem dL_textTold_398 : decode cL_textTold 398 = .ok (.aload 5, 2) := by decide +kernel
theorem dL_textTold_400 : decode cL_textTold 400 = .ok (.aload 6, 2) := by decide +kernel
theorem dL_textTold_402 : decode cL_textTold 402 = .ok (.aload 15, 2) := by decide +kernel
theorem dL_textTold_404 : decode cL_textTold 404 = .ok (.iload 17, 2) := by decide +kernel
theorem dL_textTold_406 : decode cL_textTold 406 = .ok (.iload 17, 2) := by decide +kernel
theorem dL_textTold_408 : decode cL_textTold 408 = .ok (.iload 16, 2) := by decide +kernel
theorem dL_textTold_410 : decode cL_textTold 410 = .ok (.isub, 1) := by decide +kernel
theorem dL_textTold_411 : decode cL_textTold 411 = .ok (.invokestatic 245, 3) := by decide +kernel
theorem dL_textTold_414 : decode cL_textTold 414 = .ok (.ireturn, 1) := by decide +kernel
theorem dL_filled_0 : decode cL_filled 0 = .ok (.bipush 16, 2) := by decide +kernel
theorem dL_filled_2 : decode cL_filled 2 = .ok (.newarray .int, 2) := by decide +kernel
theorem dL_filled_4 : decode cL_filled 4 = .ok (.astore 7, 2) := by decide +kernel
theorem dL_filled_6 : decode cL_filled 6 = .ok (.iload 6, 2) := by decide +kernel
theorem dL_filled_8 : decode cL_filled 8 = .ok (.istore 8, 2) := by decide +kernel
theorem dL_filled_10 : decode cL_filled 10 = .ok (.aload_n 2, 1) := by decide +kernel
theorem dL_filled_11 : decode cL_filled 11 = .ok (.bipush 20, 2) := by decide +kernel
theorem dL_filled_13 : decode cL_filled 13 = .ok (.iaload, 1) := by decide +kernel
theorem dL_filled_14 : decode cL_filled 14 = .ok (.bipush 6, 2) := by decide +kernel
theorem dL_filled_16 : decode cL_filled 16 = .ok (.ishr, 1) := by decide +kernel
theorem dL_filled_17 : decode cL_filled 17 = .ok (.bipush 127, 2) := by decide +kernel
theorem dL_filled_19 : decode cL_filled 19 = .ok (.iand, 1) := by decide +kernel
theorem dL_filled_20 : decode cL_filled 20 = .ok (.istore 9, 2) := by decide +kernel
theorem dL_filled_22 : decode cL_filled 22 = .ok (.iconst 0, 1) := by decide +kernel
theorem dL_filled_23 : decode cL_filled 23 = .ok (.istore 10, 2) := by decide +kernel
theorem dL_filled_25 : decode cL_filled 25 = .ok (.iconst 0, 1) := by decide +kernel
theorem dL_filled_26 : decode cL_filled 26 = .ok (.istore 11, 2) := by decide +kernel
theorem dL_filled_28 : decode cL_filled 28 = .ok (.iload 11, 2) := by decide +kernel
theorem dL_filled_30 : decode cL_filled 30 = .ok (.aload_n 3, 1) := by decide +kernel
theorem dL_filled_31 : decode cL_filled 31 = .ok (.iconst 1, 1) := by decide +kernel
theorem dL_filled_32 : decode cL_filled 32 = .ok (.iaload, 1) := by decide +kernel
theorem dL_filled_33 : decode cL_filled 33 = .ok (.if_icmp .ge 28, 3) := by decide +kernel
theorem dL_filled_36 : decode cL_filled 36 = .ok (.iload 10, 2) := by decide +kernel
theorem dL_filled_38 : decode cL_filled 38 = .ok (.aload 4, 2) := by decide +kernel
theorem dL_filled_40 : decode cL_filled 40 = .ok (.iload 11, 2) := by decide +kernel
theorem dL_filled_42 : decode cL_filled 42 = .ok (.iaload, 1) := by decide +kernel
theorem dL_filled_43 : decode cL_filled 43 = .ok (.iconst 1, 1) := by decide +kernel
theorem dL_filled_44 : decode cL_filled 44 = .ok (.if_icmp .ne 7, 3) := by decide +kernel
theorem dL_filled_47 : decode cL_filled 47 = .ok (.iconst 1, 1) := by decide +kernel
theorem dL_filled_48 : decode cL_filled 48 = .ok (.goto 4, 3) := by decide +kernel
theorem dL_filled_51 : decode cL_filled 51 = .ok (.iconst 0, 1) := by decide +kernel
theorem dL_filled_52 : decode cL_filled 52 = .ok (.ior, 1) := by decide +kernel
theorem dL_filled_53 : decode cL_filled 53 = .ok (.istore 10, 2) := by decide +kernel
theorem dL_filled_55 : decode cL_filled 55 = .ok (.iinc 11 1, 3) := by decide +kernel
theorem dL_filled_58 : decode cL_filled 58 = .ok (.goto (-30), 3) := by decide +kernel
theorem dL_filled_61 : decode cL_filled 61 = .ok (.aload_n 3, 1) := by decide +kernel
theorem dL_filled_62 : decode cL_filled 62 = .ok (.iconst 1, 1) := by decide +kernel
theorem dL_filled_63 : decode cL_filled 63 = .ok (.iaload, 1) := by decide +kernel
theorem dL_filled_64 : decode cL_filled 64 = .ok (.iconst 1, 1) := by decide +kernel
theorem dL_filled_65 : decode cL_filled 65 = .ok (.isub, 1) := by decide +kernel
theorem dL_filled_66 : decode cL_filled 66 = .ok (.istore 11, 2) := by decide +kernel
theorem dL_filled_68 : decode cL_filled 68 = .ok (.iload 10, 2) := by decide +kernel
theorem dL_filled_70 : decode cL_filled 70 = .ok (.ifCond .eq 62, 3) := by decide +kernel
theorem dL_filled_73 : decode cL_filled 73 = .ok (.iload 9, 2) := by decide +kernel
theorem dL_filled_75 : decode cL_filled 75 = .ok (.ifCond .le 57, 3) := by decide +kernel
theorem dL_filled_78 : decode cL_filled 78 = .ok (.iload 8, 2) := by decide +kernel
theorem dL_filled_80 : decode cL_filled 80 = .ok (.iload 9, 2) := by decide +kernel
theorem dL_filled_82 : decode cL_filled 82 = .ok (.if_icmp .lt 50, 3) := by decide +kernel
theorem dL_filled_85 : decode cL_filled 85 = .ok (.aload 4, 2) := by decide +kernel
theorem dL_filled_87 : decode cL_filled 87 = .ok (.iload 11, 2) := by decide +kernel
theorem dL_filled_89 : decode cL_filled 89 = .ok (.iaload, 1) := by decide +kernel
theorem dL_filled_90 : decode cL_filled 90 = .ok (.iconst 1, 1) := by decide +kernel
theorem dL_filled_91 : decode cL_filled 91 = .ok (.if_icmp .ne 19, 3) := by decide +kernel
theorem dL_filled_94 : decode cL_filled 94 = .ok (.aload 7, 2) := by decide +kernel
theorem dL_filled_96 : decode cL_filled 96 = .ok (.iload 11, 2) := by decide +kernel
theorem dL_filled_98 : decode cL_filled 98 = .ok (.dup2, 1) := by decide +kernel
theorem dL_filled_99 : decode cL_filled 99 = .ok (.iaload, 1) := by decide +kernel
theorem dL_filled_100 : decode cL_filled 100 = .ok (.iconst 1, 1) := by decide +kernel
theorem dL_filled_101 : decode cL_filled 101 = .ok (.iadd, 1) := by decide +kernel
theorem dL_filled_102 : decode cL_filled 102 = .ok (.iastore, 1) := by decide +kernel
theorem dL_filled_103 : decode cL_filled 103 = .ok (.iload 8, 2) := by decide +kernel
theorem dL_filled_105 : decode cL_filled 105 = .ok (.iload 9, 2) := by decide +kernel
theorem dL_filled_107 : decode cL_filled 107 = .ok (.isub, 1) := by decide +kernel
theorem dL_filled_108 : decode cL_filled 108 = .ok (.istore 8, 2) := by decide +kernel
theorem dL_filled_110 : decode cL_filled 110 = .ok (.iload 11, 2) := by decide +kernel
theorem dL_filled_112 : decode cL_filled 112 = .ok (.ifCond .ne 11, 3) := by decide +kernel
theorem dL_filled_115 : decode cL_filled 115 = .ok (.aload_n 3, 1) := by decide +kernel
theorem dL_filled_116 : decode cL_filled 116 = .ok (.iconst 1, 1) := by decide +kernel
theorem dL_filled_117 : decode cL_filled 117 = .ok (.iaload, 1) := by decide +kernel
theorem dL_filled_118 : decode cL_filled 118 = .ok (.iconst 1, 1) := by decide +kernel
theorem dL_filled_119 : decode cL_filled 119 = .ok (.isub, 1) := by decide +kernel
theorem dL_filled_120 : decode cL_filled 120 = .ok (.goto 7, 3) := by decide +kernel
theorem dL_filled_123 : decode cL_filled 123 = .ok (.iload 11, 2) := by decide +kernel
theorem dL_filled_125 : decode cL_filled 125 = .ok (.iconst 1, 1) := by decide +kernel
theorem dL_filled_126 : decode cL_filled 126 = .ok (.isub, 1) := by decide +kernel
theorem dL_filled_127 : decode cL_filled 127 = .ok (.istore 11, 2) := by decide +kernel
theorem dL_filled_129 : decode cL_filled 129 = .ok (.goto (-61), 3) := by decide +kernel
theorem dL_filled_132 : decode cL_filled 132 = .ok (.iconst 0, 1) := by decide +kernel
theorem dL_filled_133 : decode cL_filled 133 = .ok (.istore 12, 2) := by decide +kernel
theorem dL_filled_135 : decode cL_filled 135 = .ok (.iconst 0, 1) := by decide +kernel
theorem dL_filled_136 : decode cL_filled 136 = .ok (.istore 13, 2) := by decide +kernel
theorem dL_filled_138 : decode cL_filled 138 = .ok (.iload 13, 2) := by decide +kernel
theorem dL_filled_140 : decode cL_filled 140 = .ok (.aload_n 3, 1) := by decide +kernel
theorem dL_filled_141 : decode cL_filled 141 = .ok (.iconst 1, 1) := by decide +kernel
theorem dL_filled_142 : decode cL_filled 142 = .ok (.iaload, 1) := by decide +kernel
theorem dL_filled_143 : decode cL_filled 143 = .ok (.if_icmp .ge 29, 3) := by decide +kernel
theorem dL_filled_146 : decode cL_filled 146 = .ok (.iload 12, 2) := by decide +kernel
theorem dL_filled_148 : decode cL_filled 148 = .ok (.aload_n 1, 1) := by decide +kernel
theorem dL_filled_149 : decode cL_filled 149 = .ok (.iload 13, 2) := by decide +kernel
theorem dL_filled_151 : decode cL_filled 151 = .ok (.iaload, 1) := by decide +kernel
theorem dL_filled_152 : decode cL_filled 152 = .ok (.bipush 63, 2) := by decide +kernel
theorem dL_filled_154 : decode cL_filled 154 = .ok (.iand, 1) := by decide +kernel
theorem dL_filled_155 : decode cL_filled 155 = .ok (.ifCond .ne 7, 3) := by decide +kernel
theorem dL_filled_158 : decode cL_filled 158 = .ok (.iconst 1, 1) := by decide +kernel
theorem dL_filled_159 : decode cL_filled 159 = .ok (.goto 4, 3) := by decide +kernel
theorem dL_filled_162 : decode cL_filled 162 = .ok (.iconst 0, 1) := by decide +kernel
theorem dL_filled_163 : decode cL_filled 163 = .ok (.ior, 1) := by decide +kernel
theorem dL_filled_164 : decode cL_filled 164 = .ok (.istore 12, 2) := by decide +kernel
theorem dL_filled_166 : decode cL_filled 166 = .ok (.iinc 13 1, 3) := by decide +kernel
theorem dL_filled_169 : decode cL_filled 169 = .ok (.goto (-31), 3) := by decide +kernel
theorem dL_filled_172 : decode cL_filled 172 = .ok (.iconst 0, 1) := by decide +kernel
theorem dL_filled_173 : decode cL_filled 173 = .ok (.istore 13, 2) := by decide +kernel
theorem dL_filled_175 : decode cL_filled 175 = .ok (.iload 12, 2) := by decide +kernel
theorem dL_filled_177 : decode cL_filled 177 = .ok (.ifCond .eq 46, 3) := by decide +kernel
theorem dL_filled_180 : decode cL_filled 180 = .ok (.iload 8, 2) := by decide +kernel
theorem dL_filled_182 : decode cL_filled 182 = .ok (.ifCond .le 41, 3) := by decide +kernel
theorem dL_filled_185 : decode cL_filled 185 = .ok (.aload_n 1, 1) := by decide +kernel
theorem dL_filled_186 : decode cL_filled 186 = .ok (.iload 13, 2) := by decide +kernel
theorem dL_filled_188 : decode cL_filled 188 = .ok (.iaload, 1) := by decide +kernel
theorem dL_filled_189 : decode cL_filled 189 = .ok (.bipush 63, 2) := by decide +kernel
theorem dL_filled_191 : decode cL_filled 191 = .ok (.iand, 1) := by decide +kernel
theorem dL_filled_192 : decode cL_filled 192 = .ok (.ifCond .eq 6, 3) := by decide +kernel
theorem dL_filled_195 : decode cL_filled 195 = .ok (.goto 15, 3) := by decide +kernel
theorem dL_filled_198 : decode cL_filled 198 = .ok (.aload 7, 2) := by decide +kernel
theorem dL_filled_200 : decode cL_filled 200 = .ok (.iload 13, 2) := by decide +kernel
theorem dL_filled_202 : decode cL_filled 202 = .ok (.dup2, 1) := by decide +kernel
theorem dL_filled_203 : decode cL_filled 203 = .ok (.iaload, 1) := by decide +kernel
theorem dL_filled_204 : decode cL_filled 204 = .ok (.iconst 1, 1) := by decide +kernel
theorem dL_filled_205 : decode cL_filled 205 = .ok (.iadd, 1) := by decide +kernel
theorem dL_filled_206 : decode cL_filled 206 = .ok (.iastore, 1) := by decide +kernel
theorem dL_filled_207 : decode cL_filled 207 = .ok (.iinc 8 (-1), 3) := by decide +kernel
theorem dL_filled_210 : decode cL_filled 210 = .ok (.iload 13, 2) := by decide +kernel
theorem dL_filled_212 : decode cL_filled 212 = .ok (.iconst 1, 1) := by decide +kernel
theorem dL_filled_213 : decode cL_filled 213 = .ok (.iadd, 1) := by decide +kernel
theorem dL_filled_214 : decode cL_filled 214 = .ok (.aload_n 3, 1) := by decide +kernel
theorem dL_filled_215 : decode cL_filled 215 = .ok (.iconst 1, 1) := by decide +kernel
theorem dL_filled_216 : decode cL_filled 216 = .ok (.iaload, 1) := by decide +kernel
theorem dL_filled_217 : decode cL_filled 217 = .ok (.irem, 1) := by decide +kernel
theorem dL_filled_218 : decode cL_filled 218 = .ok (.istore 13, 2) := by decide +kernel
theorem dL_filled_220 : decode cL_filled 220 = .ok (.goto (-45), 3) := by decide +kernel
theorem dL_filled_223 : decode cL_filled 223 = .ok (.aload_n 0, 1) := by decide +kernel
theorem dL_filled_224 : decode cL_filled 224 = .ok (.iload 5, 2) := by decide +kernel
theorem dL_filled_226 : decode cL_filled 226 = .ok (.invokestatic 249, 3) := by decide +kernel
theorem dL_filled_229 : decode cL_filled 229 = .ok (.iload 6, 2) := by decide +kernel
theorem dL_filled_231 : decode cL_filled 231 = .ok (.ifCond .ge 8, 3) := by decide +kernel
theorem dL_filled_234 : decode cL_filled 234 = .ok (.bipush (-100), 2) := by decide +kernel
theorem dL_filled_236 : decode cL_filled 236 = .ok (.goto 5, 3) := by decide +kernel
theorem dL_filled_239 : decode cL_filled 239 = .ok (.iload 8, 2) := by decide +kernel
theorem dL_filled_241 : decode cL_filled 241 = .ok (.if_icmp .eq 5, 3) := by decide +kernel
theorem dL_filled_244 : decode cL_filled 244 = .ok (.iconst 0, 1) := by decide +kernel
theorem dL_filled_245 : decode cL_filled 245 = .ok (.ireturn, 1) := by decide +kernel
theorem dL_filled_246 : decode cL_filled 246 = .ok (.iconst 0, 1) := by decide +kernel
theorem dL_filled_247 : decode cL_filled 247 = .ok (.istore 13, 2) := by decide +kernel
theorem dL_filled_249 : decode cL_filled 249 = .ok (.iload 13, 2) := by decide +kernel
theorem dL_filled_251 : decode cL_filled 251 = .ok (.aload_n 3, 1) := by decide +kernel
theorem dL_filled_252 : decode cL_filled 252 = .ok (.iconst 1, 1) := by decide +kernel
theorem dL_filled_253 : decode cL_filled 253 = .ok (.iaload, 1) := by decide +kernel
theorem dL_filled_254 : decode cL_filled 254 = .ok (.if_icmp .ge 36, 3) := by decide +kernel
theorem dL_filled_257 : decode cL_filled 257 = .ok (.aload_n 0, 1) := by decide +kernel
theorem dL_filled_258 : decode cL_filled 258 = .ok (.iload 5, 2) := by decide +kernel
theorem dL_filled_260 : decode cL_filled 260 = .ok (.iload 13, 2) := by decide +kernel
theorem dL_filled_262 : decode cL_filled 262 = .ok (.invokestatic 251, 3) := by decide +kernel
theorem dL_filled_265 : decode cL_filled 265 = .ok (.iload 6, 2) := by decide +kernel
theorem dL_filled_267 : decode cL_filled 267 = .ok (.ifCond .ge 7, 3) := by decide +kernel
theorem dL_filled_270 : decode cL_filled 270 = .ok (.iconst 0, 1) := by decide +kernel
theorem dL_filled_271 : decode cL_filled 271 = .ok (.goto 8, 3) := by decide +kernel
theorem dL_filled_274 : decode cL_filled 274 = .ok (.aload 7, 2) := by decide +kernel
theorem dL_filled_276 : decode cL_filled 276 = .ok (.iload 13, 2) := by decide +kernel
theorem dL_filled_278 : decode cL_filled 278 = .ok (.iaload, 1) := by decide +kernel
theorem dL_filled_279 : decode cL_filled 279 = .ok (.if_icmp .eq 5, 3) := by decide +kernel
theorem dL_filled_282 : decode cL_filled 282 = .ok (.iconst 0, 1) := by decide +kernel
theorem dL_filled_283 : decode cL_filled 283 = .ok (.ireturn, 1) := by decide +kernel
theorem dL_filled_284 : decode cL_filled 284 = .ok (.iinc 13 1, 3) := by decide +kernel
theorem dL_filled_287 : decode cL_filled 287 = .ok (.goto (-38), 3) := by decide +kernel
theorem dL_filled_290 : decode cL_filled 290 = .ok (.aload_n 0, 1) := by decide +kernel
theorem dL_filled_291 : decode cL_filled 291 = .ok (.iload 5, 2) := by decide +kernel
theorem dL_filled_293 : decode cL_filled 293 = .ok (.aload_n 3, 1) := by decide +kernel
theorem dL_filled_294 : decode cL_filled 294 = .ok (.iconst 1, 1) := by decide +kernel
theorem dL_filled_295 : decode cL_filled 295 = .ok (.iaload, 1) := by decide +kernel
theorem dL_filled_296 : decode cL_filled 296 = .ok (.invokestatic 251, 3) := by decide +kernel
theorem dL_filled_299 : decode cL_filled 299 = .ok (.sipush (-7100), 3) := by decide +kernel
theorem dL_filled_302 : decode cL_filled 302 = .ok (.if_icmp .ne 38, 3) := by decide +kernel
theorem dL_filled_305 : decode cL_filled 305 = .ok (.aload_n 3, 1) := by decide +kernel
theorem dL_filled_306 : decode cL_filled 306 = .ok (.iconst 1, 1) := by decide +kernel
theorem dL_filled_307 : decode cL_filled 307 = .ok (.iaload, 1) := by decide +kernel
theorem dL_filled_308 : decode cL_filled 308 = .ok (.ifCond .eq 15, 3) := by decide +kernel
theorem dL_filled_311 : decode cL_filled 311 = .ok (.aload_n 0, 1) := by decide +kernel
theorem dL_filled_312 : decode cL_filled 312 = .ok (.iconst (-1), 1) := by decide +kernel
theorem dL_filled_313 : decode cL_filled 313 = .ok (.iconst 0, 1) := by decide +kernel
theorem dL_filled_314 : decode cL_filled 314 = .ok (.invokestatic 251, 3) := by decide +kernel
theorem dL_filled_317 : decode cL_filled 317 = .ok (.sipush (-7200), 3) := by decide +kernel
theorem dL_filled_320 : decode cL_filled 320 = .ok (.if_icmp .ne 20, 3) := by decide +kernel
theorem dL_filled_323 : decode cL_filled 323 = .ok (.aload_n 0, 1) := by decide +kernel
