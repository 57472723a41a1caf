theorem dL_law_296 : decode cL_law 296 = .ok (.iinc 13 1, 3) := by decide +kernel
theorem dL_law_299 : decode cL_law 299 = .ok (.goto (-94), 3) := by decide +kernel
theorem dL_law_302 : decode cL_law 302 = .ok (.iload 12, 2) := by decide +kernel
theorem dL_law_304 : decode cL_law 304 = .ok (.ifCond .eq 67, 3) := by decide +kernel
theorem dL_law_307 : decode cL_law 307 = .ok (.iload 11, 2) := by decide +kernel
theorem dL_law_309 : decode cL_law 309 = .ok (.iload 9, 2) := by decide +kernel
theorem dL_law_311 : decode cL_law 311 = .ok (.if_icmp .eq 60, 3) := by decide +kernel
theorem dL_law_314 : decode cL_law 314 = .ok (.iload 8, 2) := by decide +kernel
theorem dL_law_316 : decode cL_law 316 = .ok (.ifCond .eq 14, 3) := by decide +kernel
theorem dL_law_319 : decode cL_law 319 = .ok (.aload_n 1, 1) := by decide +kernel
theorem dL_law_320 : decode cL_law 320 = .ok (.iload 9, 2) := by decide +kernel
theorem dL_law_322 : decode cL_law 322 = .ok (.iload 10, 2) := by decide +kernel
theorem dL_law_324 : decode cL_law 324 = .ok (.invokevirtual 155, 3) := by decide +kernel
theorem dL_law_327 : decode cL_law 327 = .ok (.ifCond .ne 44, 3) := by decide +kernel
theorem dL_law_330 : decode cL_law 330 = .ok (.aload_n 1, 1) := by decide +kernel
theorem dL_law_331 : decode cL_law 331 = .ok (.iload 9, 2) := by decide +kernel
theorem dL_law_333 : decode cL_law 333 = .ok (.iload 10, 2) := by decide +kernel
theorem dL_law_335 : decode cL_law 335 = .ok (.invokevirtual 152, 3) := by decide +kernel
theorem dL_law_338 : decode cL_law 338 = .ok (.ifCond .eq 35, 3) := by decide +kernel
theorem dL_law_341 : decode cL_law 341 = .ok (.aload_n 1, 1) := by decide +kernel
theorem dL_law_342 : decode cL_law 342 = .ok (.iload 9, 2) := by decide +kernel
theorem dL_law_344 : decode cL_law 344 = .ok (.iload 11, 2) := by decide +kernel
theorem dL_law_346 : decode cL_law 346 = .ok (.invokevirtual 158, 3) := by decide +kernel
theorem dL_law_349 : decode cL_law 349 = .ok (.ifCond .lt 22, 3) := by decide +kernel
theorem dL_law_352 : decode cL_law 352 = .ok (.aload_n 1, 1) := by decide +kernel
theorem dL_law_353 : decode cL_law 353 = .ok (.iload 9, 2) := by decide +kernel
theorem dL_law_355 : decode cL_law 355 = .ok (.iload 11, 2) := by decide +kernel
theorem dL_law_357 : decode cL_law 357 = .ok (.invokevirtual 158, 3) := by decide +kernel
theorem dL_law_360 : decode cL_law 360 = .ok (.aload_n 1, 1) := by decide +kernel
theorem dL_law_361 : decode cL_law 361 = .ok (.iload 9, 2) := by decide +kernel
theorem dL_law_363 : decode cL_law 363 = .ok (.iload 10, 2) := by decide +kernel
theorem dL_law_365 : decode cL_law 365 = .ok (.invokevirtual 149, 3) := by decide +kernel
theorem dL_law_368 : decode cL_law 368 = .ok (.if_icmp .le 5, 3) := by decide +kernel
theorem dL_law_371 : decode cL_law 371 = .ok (.iconst 0, 1) := by decide +kernel
theorem dL_law_372 : decode cL_law 372 = .ok (.ireturn, 1) := by decide +kernel
theorem dL_law_373 : decode cL_law 373 = .ok (.iinc 10 1, 3) := by decide +kernel
theorem dL_law_376 : decode cL_law 376 = .ok (.goto (-198), 3) := by decide +kernel
theorem dL_law_379 : decode cL_law 379 = .ok (.iconst 0, 1) := by decide +kernel
theorem dL_law_380 : decode cL_law 380 = .ok (.istore 10, 2) := by decide +kernel
theorem dL_law_382 : decode cL_law 382 = .ok (.iload 10, 2) := by decide +kernel
theorem dL_law_384 : decode cL_law 384 = .ok (.iload 7, 2) := by decide +kernel
theorem dL_law_386 : decode cL_law 386 = .ok (.if_icmp .ge 190, 3) := by decide +kernel
theorem dL_law_389 : decode cL_law 389 = .ok (.aload_n 1, 1) := by decide +kernel
theorem dL_law_390 : decode cL_law 390 = .ok (.iload 9, 2) := by decide +kernel
theorem dL_law_392 : decode cL_law 392 = .ok (.iload 10, 2) := by decide +kernel
theorem dL_law_394 : decode cL_law 394 = .ok (.invokevirtual 158, 3) := by decide +kernel
theorem dL_law_397 : decode cL_law 397 = .ok (.istore 11, 2) := by decide +kernel
theorem dL_law_399 : decode cL_law 399 = .ok (.aload_n 1, 1) := by decide +kernel
theorem dL_law_400 : decode cL_law 400 = .ok (.iload 9, 2) := by decide +kernel
theorem dL_law_402 : decode cL_law 402 = .ok (.iload 10, 2) := by decide +kernel
theorem dL_law_404 : decode cL_law 404 = .ok (.invokevirtual 161, 3) := by decide +kernel
theorem dL_law_407 : decode cL_law 407 = .ok (.istore 12, 2) := by decide +kernel
theorem dL_law_409 : decode cL_law 409 = .ok (.aload_n 1, 1) := by decide +kernel
theorem dL_law_410 : decode cL_law 410 = .ok (.iload 9, 2) := by decide +kernel
theorem dL_law_412 : decode cL_law 412 = .ok (.iload 10, 2) := by decide +kernel
theorem dL_law_414 : decode cL_law 414 = .ok (.invokevirtual 164, 3) := by decide +kernel
theorem dL_law_417 : decode cL_law 417 = .ok (.istore 13, 2) := by decide +kernel
theorem dL_law_419 : decode cL_law 419 = .ok (.iload 11, 2) := by decide +kernel
theorem dL_law_421 : decode cL_law 421 = .ok (.aload_n 1, 1) := by decide +kernel
theorem dL_law_422 : decode cL_law 422 = .ok (.iload 10, 2) := by decide +kernel
theorem dL_law_424 : decode cL_law 424 = .ok (.iload 9, 2) := by decide +kernel
theorem dL_law_426 : decode cL_law 426 = .ok (.invokevirtual 158, 3) := by decide +kernel
theorem dL_law_429 : decode cL_law 429 = .ok (.if_icmp .ne 80, 3) := by decide +kernel
theorem dL_law_432 : decode cL_law 432 = .ok (.iload 11, 2) := by decide +kernel
theorem dL_law_434 : decode cL_law 434 = .ok (.ifCond .ne 7, 3) := by decide +kernel
theorem dL_law_437 : decode cL_law 437 = .ok (.iconst 1, 1) := by decide +kernel
theorem dL_law_438 : decode cL_law 438 = .ok (.goto 4, 3) := by decide +kernel
theorem dL_law_441 : decode cL_law 441 = .ok (.iconst 0, 1) := by decide +kernel
theorem dL_law_442 : decode cL_law 442 = .ok (.iload 9, 2) := by decide +kernel
theorem dL_law_444 : decode cL_law 444 = .ok (.iload 10, 2) := by decide +kernel
theorem dL_law_446 : decode cL_law 446 = .ok (.if_icmp .ne 7, 3) := by decide +kernel
theorem dL_law_449 : decode cL_law 449 = .ok (.iconst 1, 1) := by decide +kernel
theorem dL_law_450 : decode cL_law 450 = .ok (.goto 4, 3) := by decide +kernel
theorem dL_law_453 : decode cL_law 453 = .ok (.iconst 0, 1) := by decide +kernel
theorem dL_law_454 : decode cL_law 454 = .ok (.if_icmp .ne 55, 3) := by decide +kernel
theorem dL_law_457 : decode cL_law 457 = .ok (.iload 12, 2) := by decide +kernel
theorem dL_law_459 : decode cL_law 459 = .ok (.iconst (-1), 1) := by decide +kernel
theorem dL_law_460 : decode cL_law 460 = .ok (.if_icmp .lt 49, 3) := by decide +kernel
theorem dL_law_463 : decode cL_law 463 = .ok (.iload 12, 2) := by decide +kernel
theorem dL_law_465 : decode cL_law 465 = .ok (.aload_n 1, 1) := by decide +kernel
theorem dL_law_466 : decode cL_law 466 = .ok (.iload 10, 2) := by decide +kernel
theorem dL_law_468 : decode cL_law 468 = .ok (.invokevirtual 143, 3) := by decide +kernel
theorem dL_law_471 : decode cL_law 471 = .ok (.if_icmp .ge 38, 3) := by decide +kernel
theorem dL_law_474 : decode cL_law 474 = .ok (.iload 13, 2) := by decide +kernel
theorem dL_law_476 : decode cL_law 476 = .ok (.ifCond .lt 33, 3) := by decide +kernel
theorem dL_law_479 : decode cL_law 479 = .ok (.iload 13, 2) := by decide +kernel
theorem dL_law_481 : decode cL_law 481 = .ok (.bipush 9, 2) := by decide +kernel
theorem dL_law_483 : decode cL_law 483 = .ok (.if_icmp .gt 26, 3) := by decide +kernel
theorem dL_law_486 : decode cL_law 486 = .ok (.iload 12, 2) := by decide +kernel
theorem dL_law_488 : decode cL_law 488 = .ok (.ifCond .ge 7, 3) := by decide +kernel
theorem dL_law_491 : decode cL_law 491 = .ok (.iconst 1, 1) := by decide +kernel
theorem dL_law_492 : decode cL_law 492 = .ok (.goto 4, 3) := by decide +kernel
theorem dL_law_495 : decode cL_law 495 = .ok (.iconst 0, 1) := by decide +kernel
theorem dL_law_496 : decode cL_law 496 = .ok (.iload 13, 2) := by decide +kernel
theorem dL_law_498 : decode cL_law 498 = .ok (.ifCond .ne 7, 3) := by decide +kernel
theorem dL_law_501 : decode cL_law 501 = .ok (.iconst 1, 1) := by decide +kernel
theorem dL_law_502 : decode cL_law 502 = .ok (.goto 4, 3) := by decide +kernel
theorem dL_law_505 : decode cL_law 505 = .ok (.iconst 0, 1) := by decide +kernel
theorem dL_law_506 : decode cL_law 506 = .ok (.if_icmp .eq 5, 3) := by decide +kernel
theorem dL_law_509 : decode cL_law 509 = .ok (.iconst 0, 1) := by decide +kernel
theorem dL_law_510 : decode cL_law 510 = .ok (.ireturn, 1) := by decide +kernel
theorem dL_law_511 : decode cL_law 511 = .ok (.iload 9, 2) := by decide +kernel
theorem dL_law_513 : decode cL_law 513 = .ok (.iload 10, 2) := by decide +kernel
theorem dL_law_515 : decode cL_law 515 = .ok (.iadd, 1) := by decide +kernel
theorem dL_law_516 : decode cL_law 516 = .ok (.iload_n 3, 1) := by decide +kernel
theorem dL_law_517 : decode cL_law 517 = .ok (.iadd, 1) := by decide +kernel
theorem dL_law_518 : decode cL_law 518 = .ok (.iload 7, 2) := by decide +kernel
theorem dL_law_520 : decode cL_law 520 = .ok (.irem, 1) := by decide +kernel
theorem dL_law_521 : decode cL_law 521 = .ok (.istore 14, 2) := by decide +kernel
theorem dL_law_523 : decode cL_law 523 = .ok (.aload_n 1, 1) := by decide +kernel
theorem dL_law_524 : decode cL_law 524 = .ok (.iload 9, 2) := by decide +kernel
theorem dL_law_526 : decode cL_law 526 = .ok (.iload 14, 2) := by decide +kernel
theorem dL_law_528 : decode cL_law 528 = .ok (.invokevirtual 158, 3) := by decide +kernel
theorem dL_law_531 : decode cL_law 531 = .ok (.istore 15, 2) := by decide +kernel
theorem dL_law_533 : decode cL_law 533 = .ok (.aload_n 1, 1) := by decide +kernel
theorem dL_law_534 : decode cL_law 534 = .ok (.iload 14, 2) := by decide +kernel
theorem dL_law_536 : decode cL_law 536 = .ok (.iload 10, 2) := by decide +kernel
theorem dL_law_538 : decode cL_law 538 = .ok (.invokevirtual 158, 3) := by decide +kernel
theorem dL_law_541 : decode cL_law 541 = .ok (.istore 16, 2) := by decide +kernel
theorem dL_law_543 : decode cL_law 543 = .ok (.iload 15, 2) := by decide +kernel
theorem dL_law_545 : decode cL_law 545 = .ok (.ifCond .lt 25, 3) := by decide +kernel
theorem dL_law_548 : decode cL_law 548 = .ok (.iload 16, 2) := by decide +kernel
theorem dL_law_550 : decode cL_law 550 = .ok (.ifCond .lt 20, 3) := by decide +kernel
theorem dL_law_553 : decode cL_law 553 = .ok (.iload 11, 2) := by decide +kernel
theorem dL_law_555 : decode cL_law 555 = .ok (.ifCond .lt 13, 3) := by decide +kernel
theorem dL_law_558 : decode cL_law 558 = .ok (.iload 11, 2) := by decide +kernel
theorem dL_law_560 : decode cL_law 560 = .ok (.iload 15, 2) := by decide +kernel
theorem dL_law_562 : decode cL_law 562 = .ok (.iload 16, 2) := by decide +kernel
theorem dL_law_564 : decode cL_law 564 = .ok (.iadd, 1) := by decide +kernel
theorem dL_law_565 : decode cL_law 565 = .ok (.if_icmp .le 5, 3) := by decide +kernel
theorem dL_law_568 : decode cL_law 568 = .ok (.iconst 0, 1) := by decide +kernel
theorem dL_law_569 : decode cL_law 569 = .ok (.ireturn, 1) := by decide +kernel
theorem dL_law_570 : decode cL_law 570 = .ok (.iinc 10 1, 3) := by decide +kernel
theorem dL_law_573 : decode cL_law 573 = .ok (.goto (-191), 3) := by decide +kernel
theorem dL_law_576 : decode cL_law 576 = .ok (.iinc 9 1, 3) := by decide +kernel
theorem dL_law_579 : decode cL_law 579 = .ok (.goto (-411), 3) := by decide +kernel
theorem dL_law_582 : decode cL_law 582 = .ok (.aload_n 1, 1) := by decide +kernel
theorem dL_law_583 : decode cL_law 583 = .ok (.invokevirtual 117, 3) := by decide +kernel
theorem dL_law_586 : decode cL_law 586 = .ok (.lload 5, 2) := by decide +kernel
theorem dL_law_588 : decode cL_law 588 = .ok (.lcmp, 1) := by decide +kernel
theorem dL_law_589 : decode cL_law 589 = .ok (.ifCond .eq 5, 3) := by decide +kernel
theorem dL_law_592 : decode cL_law 592 = .ok (.iconst 0, 1) := by decide +kernel
theorem dL_law_593 : decode cL_law 593 = .ok (.ireturn, 1) := by decide +kernel
theorem dL_law_594 : decode cL_law 594 = .ok (.iload 8, 2) := by decide +kernel
theorem dL_law_596 : decode cL_law 596 = .ok (.ifCond .ne 6, 3) := by decide +kernel
theorem dL_law_599 : decode cL_law 599 = .ok (.goto 419, 3) := by decide +kernel
theorem dL_law_602 : decode cL_law 602 = .ok (.iload 4, 2) := by decide +kernel
theorem dL_law_604 : decode cL_law 604 = .ok (.iconst 4, 1) := by decide +kernel
theorem dL_law_605 : decode cL_law 605 = .ok (.ishr, 1) := by decide +kernel
theorem dL_law_606 : decode cL_law 606 = .ok (.iload 7, 2) := by decide +kernel
theorem dL_law_608 : decode cL_law 608 = .ok (.invokestatic 15, 3) := by decide +kernel
theorem dL_law_611 : decode cL_law 611 = .ok (.istore 9, 2) := by decide +kernel
theorem dL_law_613 : decode cL_law 613 = .ok (.aload_n 1, 1) := by decide +kernel
theorem dL_law_614 : decode cL_law 614 = .ok (.invokevirtual 137, 3) := by decide +kernel
theorem dL_law_617 : decode cL_law 617 = .ok (.istore 10, 2) := by decide +kernel
theorem dL_law_619 : decode cL_law 619 = .ok (.aload_n 1, 1) := by decide +kernel
theorem dL_law_620 : decode cL_law 620 = .ok (.iload 9, 2) := by decide +kernel
theorem dL_law_622 : decode cL_law 622 = .ok (.invokevirtual 167, 3) := by decide +kernel
theorem dL_law_625 : decode cL_law 625 = .ok (.istore 11, 2) := by decide +kernel
theorem dL_law_627 : decode cL_law 627 = .ok (.aload_n 1, 1) := by decide +kernel
theorem dL_law_628 : decode cL_law 628 = .ok (.iload 10, 2) := by decide +kernel
theorem dL_law_630 : decode cL_law 630 = .ok (.iload 9, 2) := by decide +kernel
theorem dL_law_632 : decode cL_law 632 = .ok (.invokevirtual 158, 3) := by decide +kernel
theorem dL_law_635 : decode cL_law 635 = .ok (.istore 12, 2) := by decide +kernel
theorem dL_law_637 : decode cL_law 637 = .ok (.iload 11, 2) := by decide +kernel
theorem dL_law_639 : decode cL_law 639 = .ok (.ifCond .ge 7, 3) := by decide +kernel
theorem dL_law_642 : decode cL_law 642 = .ok (.iconst 1, 1) := by decide +kernel
theorem dL_law_643 : decode cL_law 643 = .ok (.goto 4, 3) := by decide +kernel
theorem dL_law_646 : decode cL_law 646 = .ok (.iconst 0, 1) := by decide +kernel
theorem dL_law_647 : decode cL_law 647 = .ok (.iload 12, 2) := by decide +kernel
theorem dL_law_649 : decode cL_law 649 = .ok (.ifCond .ge 7, 3) := by decide +kernel
theorem dL_law_652 : decode cL_law 652 = .ok (.iconst 1, 1) := by decide +kernel
theorem dL_law_653 : decode cL_law 653 = .ok (.goto 4, 3) := by decide +kernel
theorem dL_law_656 : decode cL_law 656 = .ok (.iconst 0, 1) := by decide +kernel
theorem dL_law_657 : decode cL_law 657 = .ok (.if_icmp .ne 15, 3) := by decide +kernel
theorem dL_law_660 : decode cL_law 660 = .ok (.iload 11, 2) := by decide +kernel
theorem dL_law_662 : decode cL_law 662 = .ok (.ifCond .lt 12, 3) := by decide +kernel
theorem dL_law_665 : decode cL_law 665 = .ok (.iload 11, 2) := by decide +kernel
theorem dL_law_667 : decode cL_law 667 = .ok (.iload 12, 2) := by decide +kernel
theorem dL_law_669 : decode cL_law 669 = .ok (.if_icmp .ge 5, 3) := by decide +kernel
theorem dL_law_672 : decode cL_law 672 = .ok (.iconst 0, 1) := by decide +kernel
theorem dL_law_673 : decode cL_law 673 = .ok (.ireturn, 1) := by decide +kernel
theorem dL_law_674 : decode cL_law 674 = .ok (.aload_n 1, 1) := by decide +kernel
theorem dL_law_675 : decode cL_law 675 = .ok (.iload 9, 2) := by decide +kernel
theorem dL_law_677 : decode cL_law 677 = .ok (.invokevirtual 140, 3) := by decide +kernel
theorem dL_law_680 : decode cL_law 680 = .ok (.ifCond .eq 18, 3) := by decide +kernel
theorem dL_law_683 : decode cL_law 683 = .ok (.iload 11, 2) := by decide +kernel
theorem dL_law_685 : decode cL_law 685 = .ok (.aload_n 1, 1) := by decide +kernel
theorem dL_law_686 : decode cL_law 686 = .ok (.iload 10, 2) := by decide +kernel
theorem dL_law_688 : decode cL_law 688 = .ok (.iload 9, 2) := by decide +kernel
theorem dL_law_690 : decode cL_law 690 = .ok (.invokestatic 170, 3) := by decide +kernel
theorem dL_law_693 : decode cL_law 693 = .ok (.if_icmp .eq 5, 3) := by decide +kernel
theorem dL_law_696 : decode cL_law 696 = .ok (.iconst 0, 1) := by decide +kernel
theorem dL_law_697 : decode cL_law 697 = .ok (.ireturn, 1) := by decide +kernel
theorem dL_law_698 : decode cL_law 698 = .ok (.aload_n 1, 1) := by decide +kernel
theorem dL_law_699 : decode cL_law 699 = .ok (.iload 9, 2) := by decide +kernel
theorem dL_law_701 : decode cL_law 701 = .ok (.invokevirtual 174, 3) := by decide +kernel
theorem dL_law_704 : decode cL_law 704 = .ok (.istore 13, 2) := by decide +kernel
theorem dL_law_706 : decode cL_law 706 = .ok (.aload_n 1, 1) := by decide +kernel
theorem dL_law_707 : decode cL_law 707 = .ok (.invokevirtual 117, 3) := by decide +kernel
theorem dL_law_710 : decode cL_law 710 = .ok (.lload 5, 2) := by decide +kernel
theorem dL_law_712 : decode cL_law 712 = .ok (.lcmp, 1) := by decide +kernel
theorem dL_law_713 : decode cL_law 713 = .ok (.ifCond .eq 5, 3) := by decide +kernel
theorem dL_law_716 : decode cL_law 716 = .ok (.iconst 0, 1) := by decide +kernel
theorem dL_law_717 : decode cL_law 717 = .ok (.ireturn, 1) := by decide +kernel
theorem dL_law_718 : decode cL_law 718 = .ok (.iload 13, 2) := by decide +kernel
theorem dL_law_720 : decode cL_law 720 = .ok (.ifCond .lt 69, 3) := by decide +kernel
theorem dL_law_723 : decode cL_law 723 = .ok (.aload_n 1, 1) := by decide +kernel
theorem dL_law_724 : decode cL_law 724 = .ok (.iload 13, 2) := by decide +kernel
theorem dL_law_726 : decode cL_law 726 = .ok (.invokevirtual 177, 3) := by decide +kernel
theorem dL_law_729 : decode cL_law 729 = .ok (.ifCond .ne 12, 3) := by decide +kernel
theorem dL_law_732 : decode cL_law 732 = .ok (.aload_n 1, 1) := by decide +kernel
theorem dL_law_733 : decode cL_law 733 = .ok (.iload 13, 2) := by decide +kernel
theorem dL_law_735 : decode cL_law 735 = .ok (.invokevirtual 50, 3) := by decide +kernel
theorem dL_law_738 : decode cL_law 738 = .ok (.ifCond .ne 5, 3) := by decide +kernel
theorem dL_law_741 : decode cL_law 741 = .ok (.iconst 0, 1) := by decide +kernel
theorem dL_law_742 : decode cL_law 742 = .ok (.ireturn, 1) := by decide +kernel
theorem dL_law_743 : decode cL_law 743 = .ok (.aload_n 1, 1) := by decide +kernel
theorem dL_law_744 : decode cL_law 744 = .ok (.iload 9, 2) := by decide +kernel
theorem dL_law_746 : decode cL_law 746 = .ok (.invokevirtual 167, 3) := by decide +kernel
theorem dL_law_749 : decode cL_law 749 = .ok (.istore 14, 2) := by decide +kernel
theorem dL_law_751 : decode cL_law 751 = .ok (.iload 14, 2) := by decide +kernel
theorem dL_law_753 : decode cL_law 753 = .ok (.ifCond .lt 34, 3) := by decide +kernel
theorem dL_law_756 : decode cL_law 756 = .ok (.iload 11, 2) := by decide +kernel
theorem dL_law_758 : decode cL_law 758 = .ok (.ifCond .lt 10, 3) := by decide +kernel
theorem dL_law_761 : decode cL_law 761 = .ok (.iload 14, 2) := by decide +kernel
theorem dL_law_763 : decode cL_law 763 = .ok (.iload 11, 2) := by decide +kernel
theorem dL_law_765 : decode cL_law 765 = .ok (.if_icmp .ge 22, 3) := by decide +kernel
theorem dL_law_768 : decode cL_law 768 = .ok (.aload_n 1, 1) := by decide +kernel
theorem dL_law_769 : decode cL_law 769 = .ok (.iload 13, 2) := by decide +kernel
theorem dL_law_771 : decode cL_law 771 = .ok (.invokevirtual 50, 3) := by decide +kernel
theorem dL_law_774 : decode cL_law 774 = .ok (.ifCond .ne 13, 3) := by decide +kernel
theorem dL_law_777 : decode cL_law 777 = .ok (.aload_n 1, 1) := by decide +kernel
theorem dL_law_778 : decode cL_law 778 = .ok (.invokevirtual 117, 3) := by decide +kernel
theorem dL_law_781 : decode cL_law 781 = .ok (.lload 5, 2) := by decide +kernel
theorem dL_law_783 : decode cL_law 783 = .ok (.lcmp, 1) := by decide +kernel
theorem dL_law_784 : decode cL_law 784 = .ok (.ifCond .eq 5, 3) := by decide +kernel
theorem dL_law_787 : decode cL_law 787 = .ok (.iconst 0, 1) := by decide +kernel
theorem dL_law_788 : decode cL_law 788 = .ok (.ireturn, 1) := by decide +kernel
theorem dL_law_789 : decode cL_law 789 = .ok (.aload_n 1, 1) := by decide +kernel
theorem dL_law_790 : decode cL_law 790 = .ok (.invokevirtual 129, 3) := by decide +kernel
theorem dL_law_793 : decode cL_law 793 = .ok (.istore 14, 2) := by decide +kernel
theorem dL_law_795 : decode cL_law 795 = .ok (.aload_n 1, 1) := by decide +kernel
theorem dL_law_796 : decode cL_law 796 = .ok (.invokevirtual 126, 3) := by decide +kernel
theorem dL_law_799 : decode cL_law 799 = .ok (.istore 15, 2) := by decide +kernel
theorem dL_law_801 : decode cL_law 801 = .ok (.aload_n 1, 1) := by decide +kernel
theorem dL_law_802 : decode cL_law 802 = .ok (.invokevirtual 180, 3) := by decide +kernel
theorem dL_law_805 : decode cL_law 805 = .ok (.istore 16, 2) := by decide +kernel
theorem dL_law_807 : decode cL_law 807 = .ok (.aload_n 1, 1) := by decide +kernel
theorem dL_law_808 : decode cL_law 808 = .ok (.invokevirtual 183, 3) := by decide +kernel
theorem dL_law_811 : decode cL_law 811 = .ok (.istore 17, 2) := by decide +kernel
theorem dL_law_813 : decode cL_law 813 = .ok (.aload_n 1, 1) := by decide +kernel
theorem dL_law_814 : decode cL_law 814 = .ok (.iload 9, 2) := by decide +kernel
theorem dL_law_816 : decode cL_law 816 = .ok (.invokevirtual 94, 3) := by decide +kernel
theorem dL_law_819 : decode cL_law 819 = .ok (.iload 12, 2) := by decide +kernel
theorem dL_law_821 : decode cL_law 821 = .ok (.if_icmp .ne 23, 3) := by decide +kernel
theorem dL_law_824 : decode cL_law 824 = .ok (.aload_n 1, 1) := by decide +kernel
theorem dL_law_825 : decode cL_law 825 = .ok (.invokevirtual 124, 3) := by decide +kernel
theorem dL_law_828 : decode cL_law 828 = .ok (.iload 9, 2) := by decide +kernel
theorem dL_law_830 : decode cL_law 830 = .ok (.iload 10, 2) := by decide +kernel
theorem dL_law_832 : decode cL_law 832 = .ok (.if_icmp .ne 7, 3) := by decide +kernel
theorem dL_law_835 : decode cL_law 835 = .ok (.iconst (-1), 1) := by decide +kernel
theorem dL_law_836 : decode cL_law 836 = .ok (.goto 5, 3) := by decide +kernel
theorem dL_law_839 : decode cL_law 839 = .ok (.iload 9, 2) := by decide +kernel
theorem dL_law_841 : decode cL_law 841 = .ok (.if_icmp .eq 5, 3) := by decide +kernel
theorem dL_law_844 : decode cL_law 844 = .ok (.iconst 0, 1) := by decide +kernel
theorem dL_law_845 : decode cL_law 845 = .ok (.ireturn, 1) := by decide +kernel
theorem dL_law_846 : decode cL_law 846 = .ok (.aload_n 2, 1) := by decide +kernel
theorem dL_law_847 : decode cL_law 847 = .ok (.iload 9, 2) := by decide +kernel
theorem dL_law_849 : decode cL_law 849 = .ok (.invokevirtual 91, 3) := by decide +kernel
theorem dL_law_852 : decode cL_law 852 = .ok (.pop, 1) := by decide +kernel
theorem dL_law_853 : decode cL_law 853 = .ok (.iload 9, 2) := by decide +kernel
theorem dL_law_855 : decode cL_law 855 = .ok (.iload 10, 2) := by decide +kernel
theorem dL_law_857 : decode cL_law 857 = .ok (.if_icmp .ne 21, 3) := by decide +kernel
theorem dL_law_860 : decode cL_law 860 = .ok (.aload_n 1, 1) := by decide +kernel
theorem dL_law_861 : decode cL_law 861 = .ok (.invokevirtual 180, 3) := by decide +kernel
theorem dL_law_864 : decode cL_law 864 = .ok (.iload 16, 2) := by decide +kernel
theorem dL_law_866 : decode cL_law 866 = .ok (.iconst 1, 1) := by decide +kernel
theorem dL_law_867 : decode cL_law 867 = .ok (.iadd, 1) := by decide +kernel
theorem dL_law_868 : decode cL_law 868 = .ok (.if_icmp .ne 8, 3) := by decide +kernel
theorem dL_law_871 : decode cL_law 871 = .ok (.iload 11, 2) := by decide +kernel
theorem dL_law_873 : decode cL_law 873 = .ok (.ifCond .eq 145, 3) := by decide +kernel
theorem dL_law_876 : decode cL_law 876 = .ok (.iconst 0, 1) := by decide +kernel
theorem dL_law_877 : decode cL_law 877 = .ok (.ireturn, 1) := by decide +kernel
theorem dL_law_878 : decode cL_law 878 = .ok (.aload_n 1, 1) := by decide +kernel
theorem dL_law_879 : decode cL_law 879 = .ok (.bipush 100, 2) := by decide +kernel
theorem dL_law_881 : decode cL_law 881 = .ok (.invokevirtual 100, 3) := by decide +kernel
theorem dL_law_884 : decode cL_law 884 = .ok (.istore 18, 2) := by decide +kernel
theorem dL_law_886 : decode cL_law 886 = .ok (.aload_n 2, 1) := by decide +kernel
theorem dL_law_887 : decode cL_law 887 = .ok (.bipush 100, 2) := by decide +kernel
theorem dL_law_889 : decode cL_law 889 = .ok (.invokevirtual 97, 3) := by decide +kernel
theorem dL_law_892 : decode cL_law 892 = .ok (.iload 18, 2) := by decide +kernel
theorem dL_law_894 : decode cL_law 894 = .ok (.if_icmp .ne 11, 3) := by decide +kernel
theorem dL_law_897 : decode cL_law 897 = .ok (.aload_n 1, 1) := by decide +kernel
theorem dL_law_898 : decode cL_law 898 = .ok (.invokevirtual 124, 3) := by decide +kernel
theorem dL_law_901 : decode cL_law 901 = .ok (.iconst (-1), 1) := by decide +kernel
theorem dL_law_902 : decode cL_law 902 = .ok (.if_icmp .eq 5, 3) := by decide +kernel
theorem dL_law_905 : decode cL_law 905 = .ok (.iconst 0, 1) := by decide +kernel
theorem dL_law_906 : decode cL_law 906 = .ok (.ireturn, 1) := by decide +kernel
theorem dL_law_907 : decode cL_law 907 = .ok (.aload_n 1, 1) := by decide +kernel
theorem dL_law_908 : decode cL_law 908 = .ok (.invokevirtual 129, 3) := by decide +kernel
theorem dL_law_911 : decode cL_law 911 = .ok (.iload 14, 2) := by decide +kernel
theorem dL_law_913 : decode cL_law 913 = .ok (.isub, 1) := by decide +kernel
theorem dL_law_914 : decode cL_law 914 = .ok (.istore 19, 2) := by decide +kernel
theorem dL_law_916 : decode cL_law 916 = .ok (.iload 11, 2) := by decide +kernel
theorem dL_law_918 : decode cL_law 918 = .ok (.ifCond .ge 49, 3) := by decide +kernel
theorem dL_law_921 : decode cL_law 921 = .ok (.aload_n 1, 1) := by decide +kernel
theorem dL_law_922 : decode cL_law 922 = .ok (.invokevirtual 137, 3) := by decide +kernel
theorem dL_law_925 : decode cL_law 925 = .ok (.iload 10, 2) := by decide +kernel
theorem dL_law_927 : decode cL_law 927 = .ok (.if_icmp .ne 89, 3) := by decide +kernel
theorem dL_law_930 : decode cL_law 930 = .ok (.iload 19, 2) := by decide +kernel
theorem dL_law_932 : decode cL_law 932 = .ok (.iconst 2, 1) := by decide +kernel
theorem dL_law_933 : decode cL_law 933 = .ok (.aload_n 1, 1) := by decide +kernel
theorem dL_law_934 : decode cL_law 934 = .ok (.invokevirtual 126, 3) := by decide +kernel
theorem dL_law_937 : decode cL_law 937 = .ok (.iload 15, 2) := by decide +kernel
theorem dL_law_939 : decode cL_law 939 = .ok (.isub, 1) := by decide +kernel
theorem dL_law_940 : decode cL_law 940 = .ok (.imul, 1) := by decide +kernel
theorem dL_law_941 : decode cL_law 941 = .ok (.if_icmp .ne 75, 3) := by decide +kernel
theorem dL_law_944 : decode cL_law 944 = .ok (.aload_n 1, 1) := by decide +kernel
theorem dL_law_945 : decode cL_law 945 = .ok (.invokevirtual 183, 3) := by decide +kernel
theorem dL_law_948 : decode cL_law 948 = .ok (.iload 17, 2) := by decide +kernel
theorem dL_law_950 : decode cL_law 950 = .ok (.iconst 1, 1) := by decide +kernel
theorem dL_law_951 : decode cL_law 951 = .ok (.iadd, 1) := by decide +kernel
theorem dL_law_952 : decode cL_law 952 = .ok (.if_icmp .ne 64, 3) := by decide +kernel
theorem dL_law_955 : decode cL_law 955 = .ok (.aload_n 1, 1) := by decide +kernel
theorem dL_law_956 : decode cL_law 956 = .ok (.invokevirtual 180, 3) := by decide +kernel
theorem dL_law_959 : decode cL_law 959 = .ok (.iload 16, 2) := by decide +kernel
theorem dL_law_961 : decode cL_law 961 = .ok (.if_icmp .eq 57, 3) := by decide +kernel
theorem dL_law_964 : decode cL_law 964 = .ok (.goto 52, 3) := by decide +kernel
theorem dL_law_967 : decode cL_law 967 = .ok (.aload_n 1, 1) := by decide +kernel
theorem dL_law_968 : decode cL_law 968 = .ok (.invokevirtual 137, 3) := by decide +kernel
theorem dL_law_971 : decode cL_law 971 = .ok (.iload 9, 2) := by decide +kernel
theorem dL_law_973 : decode cL_law 973 = .ok (.if_icmp .ne 43, 3) := by decide +kernel
theorem dL_law_976 : decode cL_law 976 = .ok (.iload 19, 2) := by decide +kernel
theorem dL_law_978 : decode cL_law 978 = .ok (.iload 11, 2) := by decide +kernel
theorem dL_law_980 : decode cL_law 980 = .ok (.if_icmp .ne 36, 3) := by decide +kernel
theorem dL_law_983 : decode cL_law 983 = .ok (.aload_n 1, 1) := by decide +kernel
theorem dL_law_984 : decode cL_law 984 = .ok (.invokevirtual 180, 3) := by decide +kernel
theorem dL_law_987 : decode cL_law 987 = .ok (.iload 16, 2) := by decide +kernel
theorem dL_law_989 : decode cL_law 989 = .ok (.iconst 1, 1) := by decide +kernel
theorem dL_law_990 : decode cL_law 990 = .ok (.iadd, 1) := by decide +kernel
theorem dL_law_991 : decode cL_law 991 = .ok (.if_icmp .ne 25, 3) := by decide +kernel
theorem dL_law_994 : decode cL_law 994 = .ok (.aload_n 1, 1) := by decide +kernel
theorem dL_law_995 : decode cL_law 995 = .ok (.invokevirtual 183, 3) := by decide +kernel
theorem dL_law_998 : decode cL_law 998 = .ok (.iload 17, 2) := by decide +kernel
theorem dL_law_1000 : decode cL_law 1000 = .ok (.if_icmp .ne 16, 3) := by decide +kernel
theorem dL_law_1003 : decode cL_law 1003 = .ok (.aload_n 1, 1) := by decide +kernel
theorem dL_law_1004 : decode cL_law 1004 = .ok (.iload 10, 2) := by decide +kernel
theorem dL_law_1006 : decode cL_law 1006 = .ok (.iload 9, 2) := by decide +kernel
theorem dL_law_1008 : decode cL_law 1008 = .ok (.invokestatic 170, 3) := by decide +kernel
theorem dL_law_1011 : decode cL_law 1011 = .ok (.iload 12, 2) := by decide +kernel
theorem dL_law_1013 : decode cL_law 1013 = .ok (.if_icmp .ge 5, 3) := by decide +kernel
theorem dL_law_1016 : decode cL_law 1016 = .ok (.iconst 0, 1) := by decide +kernel
theorem dL_law_1017 : decode cL_law 1017 = .ok (.ireturn, 1) := by decide +kernel
theorem dL_law_1018 : decode cL_law 1018 = .ok (.iinc 3 1, 3) := by decide +kernel
theorem dL_law_1021 : decode cL_law 1021 = .ok (.goto (-999), 3) := by decide +kernel
theorem dL_law_1024 : decode cL_law 1024 = .ok (.aload_n 2, 1) := by decide +kernel
theorem dL_law_1025 : decode cL_law 1025 = .ok (.aload_n 1, 1) := by decide +kernel
theorem dL_law_1026 : decode cL_law 1026 = .ok (.invokevirtual 186, 3) := by decide +kernel
theorem dL_law_1029 : decode cL_law 1029 = .ok (.ireturn, 1) := by decide +kernel
theorem dL_known_0 : decode cL_known 0 = .ok (.iconst 0, 1) := by decide +kernel
theorem dL_known_1 : decode cL_known 1 = .ok (.istore_n 3, 1) := by decide +kernel
theorem dL_known_2 : decode cL_known 2 = .ok (.iload_n 1, 1) := by decide +kernel
theorem dL_known_3 : decode cL_known 3 = .ok (.istore 4, 2) := by decide +kernel
theorem dL_known_5 : decode cL_known 5 = .ok (.iconst 0, 1) := by decide +kernel
theorem dL_known_6 : decode cL_known 6 = .ok (.istore 5, 2) := by decide +kernel
theorem dL_known_8 : decode cL_known 8 = .ok (.iload 5, 2) := by decide +kernel
theorem dL_known_10 : decode cL_known 10 = .ok (.bipush 10, 2) := by decide +kernel
theorem dL_known_12 : decode cL_known 12 = .ok (.if_icmp .ge 63, 3) := by decide +kernel
theorem dL_known_15 : decode cL_known 15 = .ok (.iload 4, 2) := by decide +kernel
theorem dL_known_17 : decode cL_known 17 = .ok (.iload_n 2, 1) := by decide +kernel
theorem dL_known_18 : decode cL_known 18 = .ok (.if_icmp .eq 57, 3) := by decide +kernel
theorem dL_known_21 : decode cL_known 21 = .ok (.aload_n 0, 1) := by decide +kernel
theorem dL_known_22 : decode cL_known 22 = .ok (.iload_n 2, 1) := by decide +kernel
theorem dL_known_23 : decode cL_known 23 = .ok (.iload 4, 2) := by decide +kernel
theorem dL_known_25 : decode cL_known 25 = .ok (.invokevirtual 161, 3) := by decide +kernel
theorem dL_known_28 : decode cL_known 28 = .ok (.istore 6, 2) := by decide +kernel
theorem dL_known_30 : decode cL_known 30 = .ok (.iload 6, 2) := by decide +kernel
theorem dL_known_32 : decode cL_known 32 = .ok (.ifCond .lt 14, 3) := by decide +kernel
theorem dL_known_35 : decode cL_known 35 = .ok (.aload_n 0, 1) := by decide +kernel
theorem dL_known_36 : decode cL_known 36 = .ok (.iload 4, 2) := by decide +kernel
theorem dL_known_38 : decode cL_known 38 = .ok (.iload 6, 2) := by decide +kernel
theorem dL_known_40 : decode cL_known 40 = .ok (.invokevirtual 152, 3) := by decide +kernel
theorem dL_known_43 : decode cL_known 43 = .ok (.ifCond .ne 5, 3) := by decide +kernel
theorem dL_known_46 : decode cL_known 46 = .ok (.iconst (-1), 1) := by decide +kernel
theorem dL_known_47 : decode cL_known 47 = .ok (.ireturn, 1) := by decide +kernel
theorem dL_known_48 : decode cL_known 48 = .ok (.iload_n 3, 1) := by decide +kernel
theorem dL_known_49 : decode cL_known 49 = .ok (.aload_n 0, 1) := by decide +kernel
theorem dL_known_50 : decode cL_known 50 = .ok (.iload 4, 2) := by decide +kernel
theorem dL_known_52 : decode cL_known 52 = .ok (.iload 6, 2) := by decide +kernel
theorem dL_known_54 : decode cL_known 54 = .ok (.invokevirtual 149, 3) := by decide +kernel
theorem dL_known_57 : decode cL_known 57 = .ok (.iadd, 1) := by decide +kernel
theorem dL_known_58 : decode cL_known 58 = .ok (.istore_n 3, 1) := by decide +kernel
theorem dL_known_59 : decode cL_known 59 = .ok (.aload_n 0, 1) := by decide +kernel
theorem dL_known_60 : decode cL_known 60 = .ok (.iload 4, 2) := by decide +kernel
theorem dL_known_62 : decode cL_known 62 = .ok (.iload 6, 2) := by decide +kernel
theorem dL_known_64 : decode cL_known 64 = .ok (.invokevirtual 146, 3) := by decide +kernel
theorem dL_known_67 : decode cL_known 67 = .ok (.istore 4, 2) := by decide +kernel
theorem dL_known_69 : decode cL_known 69 = .ok (.iinc 5 1, 3) := by decide +kernel
theorem dL_known_72 : decode cL_known 72 = .ok (.goto (-64), 3) := by decide +kernel
theorem dL_known_75 : decode cL_known 75 = .ok (.iload 4, 2) := by decide +kernel
theorem dL_known_77 : decode cL_known 77 = .ok (.iload_n 2, 1) := by decide +kernel
theorem dL_known_78 : decode cL_known 78 = .ok (.if_icmp .ne 7, 3) := by decide +kernel
theorem dL_known_81 : decode cL_known 81 = .ok (.iload_n 3, 1) := by decide +kernel
theorem dL_known_82 : decode cL_known 82 = .ok (.goto 4, 3) := by decide +kernel
theorem dL_known_85 : decode cL_known 85 = .ok (.iconst (-1), 1) := by decide +kernel
theorem dL_known_86 : decode cL_known 86 = .ok (.ireturn, 1) := by decide +kernel
