theorem dL_law_455 : decode cL_law 455 = .ok (.aload_n 2, 1) := dq_44 dp_cL_law rfl
theorem dL_law_456 : decode cL_law 456 = .ok (.aload_n 0, 1) := dq_42 dp_cL_law rfl
theorem dL_law_457 : decode cL_law 457 = .ok (.iload_n 3, 1) := dq_29 dp_cL_law rfl
theorem dL_law_458 : decode cL_law 458 = .ok (.iconst 1, 1) := dq_4 dp_cL_law rfl
theorem dL_law_459 : decode cL_law 459 = .ok (.iadd, 1) := dq_96 dp_cL_law rfl
theorem dL_law_460 : decode cL_law 460 = .ok (.iaload, 1) := dq_46 dp_cL_law rfl
theorem dL_law_461 : decode cL_law 461 = .ok (.invokevirtual 44, 3) := dq_182 dp_cL_law rfl
theorem dL_law_464 : decode cL_law 464 = .ok (.pop, 1) := dq_87 dp_cL_law rfl
theorem dL_law_465 : decode cL_law 465 = .ok (.goto 905, 3) := dq_167 (v := 905) dp_cL_law rfl rfl
theorem dL_law_468 : decode cL_law 468 = .ok (.aload_n 1, 1) := dq_43 dp_cL_law rfl
theorem dL_law_469 : decode cL_law 469 = .ok (.aload_n 0, 1) := dq_42 dp_cL_law rfl
theorem dL_law_470 : decode cL_law 470 = .ok (.iload_n 3, 1) := dq_29 dp_cL_law rfl
theorem dL_law_471 : decode cL_law 471 = .ok (.iconst 1, 1) := dq_4 dp_cL_law rfl
theorem dL_law_472 : decode cL_law 472 = .ok (.iadd, 1) := dq_96 dp_cL_law rfl
theorem dL_law_473 : decode cL_law 473 = .ok (.iaload, 1) := dq_46 dp_cL_law rfl
theorem dL_law_474 : decode cL_law 474 = .ok (.aload_n 0, 1) := dq_42 dp_cL_law rfl
theorem dL_law_475 : decode cL_law 475 = .ok (.iload_n 3, 1) := dq_29 dp_cL_law rfl
theorem dL_law_476 : decode cL_law 476 = .ok (.iconst 2, 1) := dq_5 dp_cL_law rfl
theorem dL_law_477 : decode cL_law 477 = .ok (.iadd, 1) := dq_96 dp_cL_law rfl
theorem dL_law_478 : decode cL_law 478 = .ok (.iaload, 1) := dq_46 dp_cL_law rfl
theorem dL_law_479 : decode cL_law 479 = .ok (.invokevirtual 45, 3) := dq_182 dp_cL_law rfl
theorem dL_law_482 : decode cL_law 482 = .ok (.pop, 1) := dq_87 dp_cL_law rfl
theorem dL_law_483 : decode cL_law 483 = .ok (.aload_n 2, 1) := dq_44 dp_cL_law rfl
theorem dL_law_484 : decode cL_law 484 = .ok (.aload_n 0, 1) := dq_42 dp_cL_law rfl
theorem dL_law_485 : decode cL_law 485 = .ok (.iload_n 3, 1) := dq_29 dp_cL_law rfl
theorem dL_law_486 : decode cL_law 486 = .ok (.iconst 1, 1) := dq_4 dp_cL_law rfl
theorem dL_law_487 : decode cL_law 487 = .ok (.iadd, 1) := dq_96 dp_cL_law rfl
theorem dL_law_488 : decode cL_law 488 = .ok (.iaload, 1) := dq_46 dp_cL_law rfl
theorem dL_law_489 : decode cL_law 489 = .ok (.aload_n 0, 1) := dq_42 dp_cL_law rfl
theorem dL_law_490 : decode cL_law 490 = .ok (.iload_n 3, 1) := dq_29 dp_cL_law rfl
theorem dL_law_491 : decode cL_law 491 = .ok (.iconst 2, 1) := dq_5 dp_cL_law rfl
theorem dL_law_492 : decode cL_law 492 = .ok (.iadd, 1) := dq_96 dp_cL_law rfl
theorem dL_law_493 : decode cL_law 493 = .ok (.iaload, 1) := dq_46 dp_cL_law rfl
theorem dL_law_494 : decode cL_law 494 = .ok (.invokevirtual 48, 3) := dq_182 dp_cL_law rfl
theorem dL_law_497 : decode cL_law 497 = .ok (.pop, 1) := dq_87 dp_cL_law rfl
theorem dL_law_498 : decode cL_law 498 = .ok (.goto 872, 3) := dq_167 (v := 872) dp_cL_law rfl rfl
theorem dL_law_501 : decode cL_law 501 = .ok (.aload_n 1, 1) := dq_43 dp_cL_law rfl
theorem dL_law_502 : decode cL_law 502 = .ok (.aload_n 0, 1) := dq_42 dp_cL_law rfl
theorem dL_law_503 : decode cL_law 503 = .ok (.iload_n 3, 1) := dq_29 dp_cL_law rfl
theorem dL_law_504 : decode cL_law 504 = .ok (.iconst 1, 1) := dq_4 dp_cL_law rfl
theorem dL_law_505 : decode cL_law 505 = .ok (.iadd, 1) := dq_96 dp_cL_law rfl
theorem dL_law_506 : decode cL_law 506 = .ok (.iaload, 1) := dq_46 dp_cL_law rfl
theorem dL_law_507 : decode cL_law 507 = .ok (.aload_n 0, 1) := dq_42 dp_cL_law rfl
theorem dL_law_508 : decode cL_law 508 = .ok (.iload_n 3, 1) := dq_29 dp_cL_law rfl
theorem dL_law_509 : decode cL_law 509 = .ok (.iconst 2, 1) := dq_5 dp_cL_law rfl
theorem dL_law_510 : decode cL_law 510 = .ok (.iadd, 1) := dq_96 dp_cL_law rfl
theorem dL_law_511 : decode cL_law 511 = .ok (.iaload, 1) := dq_46 dp_cL_law rfl
theorem dL_law_512 : decode cL_law 512 = .ok (.aload_n 0, 1) := dq_42 dp_cL_law rfl
theorem dL_law_513 : decode cL_law 513 = .ok (.iload_n 3, 1) := dq_29 dp_cL_law rfl
theorem dL_law_514 : decode cL_law 514 = .ok (.iconst 3, 1) := dq_6 dp_cL_law rfl
theorem dL_law_515 : decode cL_law 515 = .ok (.iadd, 1) := dq_96 dp_cL_law rfl
theorem dL_law_516 : decode cL_law 516 = .ok (.iaload, 1) := dq_46 dp_cL_law rfl
theorem dL_law_517 : decode cL_law 517 = .ok (.invokevirtual 49, 3) := dq_182 dp_cL_law rfl
theorem dL_law_520 : decode cL_law 520 = .ok (.pop, 1) := dq_87 dp_cL_law rfl
theorem dL_law_521 : decode cL_law 521 = .ok (.aload_n 2, 1) := dq_44 dp_cL_law rfl
theorem dL_law_522 : decode cL_law 522 = .ok (.aload_n 0, 1) := dq_42 dp_cL_law rfl
theorem dL_law_523 : decode cL_law 523 = .ok (.iload_n 3, 1) := dq_29 dp_cL_law rfl
theorem dL_law_524 : decode cL_law 524 = .ok (.iconst 1, 1) := dq_4 dp_cL_law rfl
theorem dL_law_525 : decode cL_law 525 = .ok (.iadd, 1) := dq_96 dp_cL_law rfl
theorem dL_law_526 : decode cL_law 526 = .ok (.iaload, 1) := dq_46 dp_cL_law rfl
theorem dL_law_527 : decode cL_law 527 = .ok (.aload_n 0, 1) := dq_42 dp_cL_law rfl
theorem dL_law_528 : decode cL_law 528 = .ok (.iload_n 3, 1) := dq_29 dp_cL_law rfl
theorem dL_law_529 : decode cL_law 529 = .ok (.iconst 2, 1) := dq_5 dp_cL_law rfl
theorem dL_law_530 : decode cL_law 530 = .ok (.iadd, 1) := dq_96 dp_cL_law rfl
theorem dL_law_531 : decode cL_law 531 = .ok (.iaload, 1) := dq_46 dp_cL_law rfl
theorem dL_law_532 : decode cL_law 532 = .ok (.aload_n 0, 1) := dq_42 dp_cL_law rfl
theorem dL_law_533 : decode cL_law 533 = .ok (.iload_n 3, 1) := dq_29 dp_cL_law rfl
theorem dL_law_534 : decode cL_law 534 = .ok (.iconst 3, 1) := dq_6 dp_cL_law rfl
theorem dL_law_535 : decode cL_law 535 = .ok (.iadd, 1) := dq_96 dp_cL_law rfl
theorem dL_law_536 : decode cL_law 536 = .ok (.iaload, 1) := dq_46 dp_cL_law rfl
theorem dL_law_537 : decode cL_law 537 = .ok (.invokevirtual 52, 3) := dq_182 dp_cL_law rfl
theorem dL_law_540 : decode cL_law 540 = .ok (.pop, 1) := dq_87 dp_cL_law rfl
theorem dL_law_541 : decode cL_law 541 = .ok (.goto 829, 3) := dq_167 (v := 829) dp_cL_law rfl rfl
theorem dL_law_544 : decode cL_law 544 = .ok (.aload_n 1, 1) := dq_43 dp_cL_law rfl
theorem dL_law_545 : decode cL_law 545 = .ok (.aload_n 0, 1) := dq_42 dp_cL_law rfl
theorem dL_law_546 : decode cL_law 546 = .ok (.iload_n 3, 1) := dq_29 dp_cL_law rfl
theorem dL_law_547 : decode cL_law 547 = .ok (.iconst 1, 1) := dq_4 dp_cL_law rfl
theorem dL_law_548 : decode cL_law 548 = .ok (.iadd, 1) := dq_96 dp_cL_law rfl
theorem dL_law_549 : decode cL_law 549 = .ok (.iaload, 1) := dq_46 dp_cL_law rfl
theorem dL_law_550 : decode cL_law 550 = .ok (.aload_n 0, 1) := dq_42 dp_cL_law rfl
theorem dL_law_551 : decode cL_law 551 = .ok (.iload_n 3, 1) := dq_29 dp_cL_law rfl
theorem dL_law_552 : decode cL_law 552 = .ok (.iconst 2, 1) := dq_5 dp_cL_law rfl
theorem dL_law_553 : decode cL_law 553 = .ok (.iadd, 1) := dq_96 dp_cL_law rfl
theorem dL_law_554 : decode cL_law 554 = .ok (.iaload, 1) := dq_46 dp_cL_law rfl
theorem dL_law_555 : decode cL_law 555 = .ok (.invokevirtual 53, 3) := dq_182 dp_cL_law rfl
theorem dL_law_558 : decode cL_law 558 = .ok (.pop, 1) := dq_87 dp_cL_law rfl
theorem dL_law_559 : decode cL_law 559 = .ok (.aload_n 2, 1) := dq_44 dp_cL_law rfl
theorem dL_law_560 : decode cL_law 560 = .ok (.aload_n 0, 1) := dq_42 dp_cL_law rfl
theorem dL_law_561 : decode cL_law 561 = .ok (.iload_n 3, 1) := dq_29 dp_cL_law rfl
theorem dL_law_562 : decode cL_law 562 = .ok (.iconst 1, 1) := dq_4 dp_cL_law rfl
theorem dL_law_563 : decode cL_law 563 = .ok (.iadd, 1) := dq_96 dp_cL_law rfl
theorem dL_law_564 : decode cL_law 564 = .ok (.iaload, 1) := dq_46 dp_cL_law rfl
theorem dL_law_565 : decode cL_law 565 = .ok (.aload_n 0, 1) := dq_42 dp_cL_law rfl
theorem dL_law_566 : decode cL_law 566 = .ok (.iload_n 3, 1) := dq_29 dp_cL_law rfl
theorem dL_law_567 : decode cL_law 567 = .ok (.iconst 2, 1) := dq_5 dp_cL_law rfl
theorem dL_law_568 : decode cL_law 568 = .ok (.iadd, 1) := dq_96 dp_cL_law rfl
theorem dL_law_569 : decode cL_law 569 = .ok (.iaload, 1) := dq_46 dp_cL_law rfl
theorem dL_law_570 : decode cL_law 570 = .ok (.invokevirtual 56, 3) := dq_182 dp_cL_law rfl
theorem dL_law_573 : decode cL_law 573 = .ok (.pop, 1) := dq_87 dp_cL_law rfl
theorem dL_law_574 : decode cL_law 574 = .ok (.goto 796, 3) := dq_167 (v := 796) dp_cL_law rfl rfl
theorem dL_law_577 : decode cL_law 577 = .ok (.aload_n 1, 1) := dq_43 dp_cL_law rfl
theorem dL_law_578 : decode cL_law 578 = .ok (.aload_n 0, 1) := dq_42 dp_cL_law rfl
theorem dL_law_579 : decode cL_law 579 = .ok (.iload_n 3, 1) := dq_29 dp_cL_law rfl
theorem dL_law_580 : decode cL_law 580 = .ok (.iconst 1, 1) := dq_4 dp_cL_law rfl
theorem dL_law_581 : decode cL_law 581 = .ok (.iadd, 1) := dq_96 dp_cL_law rfl
theorem dL_law_582 : decode cL_law 582 = .ok (.iaload, 1) := dq_46 dp_cL_law rfl
theorem dL_law_583 : decode cL_law 583 = .ok (.invokevirtual 57, 3) := dq_182 dp_cL_law rfl
theorem dL_law_586 : decode cL_law 586 = .ok (.pop, 1) := dq_87 dp_cL_law rfl
theorem dL_law_587 : decode cL_law 587 = .ok (.aload_n 2, 1) := dq_44 dp_cL_law rfl
theorem dL_law_588 : decode cL_law 588 = .ok (.aload_n 0, 1) := dq_42 dp_cL_law rfl
theorem dL_law_589 : decode cL_law 589 = .ok (.iload_n 3, 1) := dq_29 dp_cL_law rfl
theorem dL_law_590 : decode cL_law 590 = .ok (.iconst 1, 1) := dq_4 dp_cL_law rfl
theorem dL_law_591 : decode cL_law 591 = .ok (.iadd, 1) := dq_96 dp_cL_law rfl
theorem dL_law_592 : decode cL_law 592 = .ok (.iaload, 1) := dq_46 dp_cL_law rfl
theorem dL_law_593 : decode cL_law 593 = .ok (.invokevirtual 60, 3) := dq_182 dp_cL_law rfl
theorem dL_law_596 : decode cL_law 596 = .ok (.pop, 1) := dq_87 dp_cL_law rfl
theorem dL_law_597 : decode cL_law 597 = .ok (.goto 773, 3) := dq_167 (v := 773) dp_cL_law rfl rfl
theorem dL_law_600 : decode cL_law 600 = .ok (.aload_n 1, 1) := dq_43 dp_cL_law rfl
theorem dL_law_601 : decode cL_law 601 = .ok (.aload_n 0, 1) := dq_42 dp_cL_law rfl
theorem dL_law_602 : decode cL_law 602 = .ok (.iload_n 3, 1) := dq_29 dp_cL_law rfl
theorem dL_law_603 : decode cL_law 603 = .ok (.iconst 1, 1) := dq_4 dp_cL_law rfl
theorem dL_law_604 : decode cL_law 604 = .ok (.iadd, 1) := dq_96 dp_cL_law rfl
theorem dL_law_605 : decode cL_law 605 = .ok (.iaload, 1) := dq_46 dp_cL_law rfl
theorem dL_law_606 : decode cL_law 606 = .ok (.aload_n 0, 1) := dq_42 dp_cL_law rfl
theorem dL_law_607 : decode cL_law 607 = .ok (.iload_n 3, 1) := dq_29 dp_cL_law rfl
theorem dL_law_608 : decode cL_law 608 = .ok (.iconst 2, 1) := dq_5 dp_cL_law rfl
theorem dL_law_609 : decode cL_law 609 = .ok (.iadd, 1) := dq_96 dp_cL_law rfl
theorem dL_law_610 : decode cL_law 610 = .ok (.iaload, 1) := dq_46 dp_cL_law rfl
theorem dL_law_611 : decode cL_law 611 = .ok (.ifCond .eq 7, 3) := dq_153 (v := 7) dp_cL_law rfl rfl
theorem dL_law_614 : decode cL_law 614 = .ok (.iconst 1, 1) := dq_4 dp_cL_law rfl
theorem dL_law_615 : decode cL_law 615 = .ok (.goto 4, 3) := dq_167 (v := 4) dp_cL_law rfl rfl
theorem dL_law_618 : decode cL_law 618 = .ok (.iconst 0, 1) := dq_3 dp_cL_law rfl
theorem dL_law_619 : decode cL_law 619 = .ok (.invokevirtual 61, 3) := dq_182 dp_cL_law rfl
theorem dL_law_622 : decode cL_law 622 = .ok (.pop, 1) := dq_87 dp_cL_law rfl
theorem dL_law_623 : decode cL_law 623 = .ok (.aload_n 2, 1) := dq_44 dp_cL_law rfl
theorem dL_law_624 : decode cL_law 624 = .ok (.aload_n 0, 1) := dq_42 dp_cL_law rfl
theorem dL_law_625 : decode cL_law 625 = .ok (.iload_n 3, 1) := dq_29 dp_cL_law rfl
theorem dL_law_626 : decode cL_law 626 = .ok (.iconst 1, 1) := dq_4 dp_cL_law rfl
theorem dL_law_627 : decode cL_law 627 = .ok (.iadd, 1) := dq_96 dp_cL_law rfl
theorem dL_law_628 : decode cL_law 628 = .ok (.iaload, 1) := dq_46 dp_cL_law rfl
theorem dL_law_629 : decode cL_law 629 = .ok (.aload_n 0, 1) := dq_42 dp_cL_law rfl
theorem dL_law_630 : decode cL_law 630 = .ok (.iload_n 3, 1) := dq_29 dp_cL_law rfl
theorem dL_law_631 : decode cL_law 631 = .ok (.iconst 2, 1) := dq_5 dp_cL_law rfl
theorem dL_law_632 : decode cL_law 632 = .ok (.iadd, 1) := dq_96 dp_cL_law rfl
theorem dL_law_633 : decode cL_law 633 = .ok (.iaload, 1) := dq_46 dp_cL_law rfl
theorem dL_law_634 : decode cL_law 634 = .ok (.ifCond .eq 7, 3) := dq_153 (v := 7) dp_cL_law rfl rfl
theorem dL_law_637 : decode cL_law 637 = .ok (.iconst 1, 1) := dq_4 dp_cL_law rfl
theorem dL_law_638 : decode cL_law 638 = .ok (.goto 4, 3) := dq_167 (v := 4) dp_cL_law rfl rfl
theorem dL_law_641 : decode cL_law 641 = .ok (.iconst 0, 1) := dq_3 dp_cL_law rfl
theorem dL_law_642 : decode cL_law 642 = .ok (.invokevirtual 65, 3) := dq_182 dp_cL_law rfl
theorem dL_law_645 : decode cL_law 645 = .ok (.pop, 1) := dq_87 dp_cL_law rfl
theorem dL_law_646 : decode cL_law 646 = .ok (.goto 724, 3) := dq_167 (v := 724) dp_cL_law rfl rfl
theorem dL_law_649 : decode cL_law 649 = .ok (.aload_n 1, 1) := dq_43 dp_cL_law rfl
theorem dL_law_650 : decode cL_law 650 = .ok (.aload_n 0, 1) := dq_42 dp_cL_law rfl
theorem dL_law_651 : decode cL_law 651 = .ok (.iload_n 3, 1) := dq_29 dp_cL_law rfl
theorem dL_law_652 : decode cL_law 652 = .ok (.iconst 1, 1) := dq_4 dp_cL_law rfl
theorem dL_law_653 : decode cL_law 653 = .ok (.iadd, 1) := dq_96 dp_cL_law rfl
theorem dL_law_654 : decode cL_law 654 = .ok (.iaload, 1) := dq_46 dp_cL_law rfl
theorem dL_law_655 : decode cL_law 655 = .ok (.aload_n 0, 1) := dq_42 dp_cL_law rfl
theorem dL_law_656 : decode cL_law 656 = .ok (.iload_n 3, 1) := dq_29 dp_cL_law rfl
theorem dL_law_657 : decode cL_law 657 = .ok (.iconst 2, 1) := dq_5 dp_cL_law rfl
theorem dL_law_658 : decode cL_law 658 = .ok (.iadd, 1) := dq_96 dp_cL_law rfl
theorem dL_law_659 : decode cL_law 659 = .ok (.iaload, 1) := dq_46 dp_cL_law rfl
theorem dL_law_660 : decode cL_law 660 = .ok (.invokevirtual 66, 3) := dq_182 dp_cL_law rfl
theorem dL_law_663 : decode cL_law 663 = .ok (.pop, 1) := dq_87 dp_cL_law rfl
theorem dL_law_664 : decode cL_law 664 = .ok (.aload_n 2, 1) := dq_44 dp_cL_law rfl
theorem dL_law_665 : decode cL_law 665 = .ok (.aload_n 0, 1) := dq_42 dp_cL_law rfl
theorem dL_law_666 : decode cL_law 666 = .ok (.iload_n 3, 1) := dq_29 dp_cL_law rfl
theorem dL_law_667 : decode cL_law 667 = .ok (.iconst 1, 1) := dq_4 dp_cL_law rfl
theorem dL_law_668 : decode cL_law 668 = .ok (.iadd, 1) := dq_96 dp_cL_law rfl
theorem dL_law_669 : decode cL_law 669 = .ok (.iaload, 1) := dq_46 dp_cL_law rfl
theorem dL_law_670 : decode cL_law 670 = .ok (.aload_n 0, 1) := dq_42 dp_cL_law rfl
theorem dL_law_671 : decode cL_law 671 = .ok (.iload_n 3, 1) := dq_29 dp_cL_law rfl
theorem dL_law_672 : decode cL_law 672 = .ok (.iconst 2, 1) := dq_5 dp_cL_law rfl
theorem dL_law_673 : decode cL_law 673 = .ok (.iadd, 1) := dq_96 dp_cL_law rfl
theorem dL_law_674 : decode cL_law 674 = .ok (.iaload, 1) := dq_46 dp_cL_law rfl
theorem dL_law_675 : decode cL_law 675 = .ok (.invokevirtual 69, 3) := dq_182 dp_cL_law rfl
theorem dL_law_678 : decode cL_law 678 = .ok (.pop, 1) := dq_87 dp_cL_law rfl
theorem dL_law_679 : decode cL_law 679 = .ok (.goto 691, 3) := dq_167 (v := 691) dp_cL_law rfl rfl
theorem dL_law_682 : decode cL_law 682 = .ok (.aload_n 1, 1) := dq_43 dp_cL_law rfl
theorem dL_law_683 : decode cL_law 683 = .ok (.aload_n 0, 1) := dq_42 dp_cL_law rfl
theorem dL_law_684 : decode cL_law 684 = .ok (.iload_n 3, 1) := dq_29 dp_cL_law rfl
theorem dL_law_685 : decode cL_law 685 = .ok (.iconst 1, 1) := dq_4 dp_cL_law rfl
theorem dL_law_686 : decode cL_law 686 = .ok (.iadd, 1) := dq_96 dp_cL_law rfl
theorem dL_law_687 : decode cL_law 687 = .ok (.iaload, 1) := dq_46 dp_cL_law rfl
theorem dL_law_688 : decode cL_law 688 = .ok (.aload_n 0, 1) := dq_42 dp_cL_law rfl
theorem dL_law_689 : decode cL_law 689 = .ok (.iload_n 3, 1) := dq_29 dp_cL_law rfl
theorem dL_law_690 : decode cL_law 690 = .ok (.iconst 2, 1) := dq_5 dp_cL_law rfl
theorem dL_law_691 : decode cL_law 691 = .ok (.iadd, 1) := dq_96 dp_cL_law rfl
theorem dL_law_692 : decode cL_law 692 = .ok (.iaload, 1) := dq_46 dp_cL_law rfl
theorem dL_law_693 : decode cL_law 693 = .ok (.invokevirtual 70, 3) := dq_182 dp_cL_law rfl
theorem dL_law_696 : decode cL_law 696 = .ok (.pop, 1) := dq_87 dp_cL_law rfl
theorem dL_law_697 : decode cL_law 697 = .ok (.aload_n 2, 1) := dq_44 dp_cL_law rfl
theorem dL_law_698 : decode cL_law 698 = .ok (.aload_n 0, 1) := dq_42 dp_cL_law rfl
theorem dL_law_699 : decode cL_law 699 = .ok (.iload_n 3, 1) := dq_29 dp_cL_law rfl
theorem dL_law_700 : decode cL_law 700 = .ok (.iconst 1, 1) := dq_4 dp_cL_law rfl
theorem dL_law_701 : decode cL_law 701 = .ok (.iadd, 1) := dq_96 dp_cL_law rfl
theorem dL_law_702 : decode cL_law 702 = .ok (.iaload, 1) := dq_46 dp_cL_law rfl
theorem dL_law_703 : decode cL_law 703 = .ok (.aload_n 0, 1) := dq_42 dp_cL_law rfl
theorem dL_law_704 : decode cL_law 704 = .ok (.iload_n 3, 1) := dq_29 dp_cL_law rfl
theorem dL_law_705 : decode cL_law 705 = .ok (.iconst 2, 1) := dq_5 dp_cL_law rfl
theorem dL_law_706 : decode cL_law 706 = .ok (.iadd, 1) := dq_96 dp_cL_law rfl
theorem dL_law_707 : decode cL_law 707 = .ok (.iaload, 1) := dq_46 dp_cL_law rfl
theorem dL_law_708 : decode cL_law 708 = .ok (.invokevirtual 73, 3) := dq_182 dp_cL_law rfl
theorem dL_law_711 : decode cL_law 711 = .ok (.pop, 1) := dq_87 dp_cL_law rfl
theorem dL_law_712 : decode cL_law 712 = .ok (.goto 658, 3) := dq_167 (v := 658) dp_cL_law rfl rfl
theorem dL_law_715 : decode cL_law 715 = .ok (.aload_n 1, 1) := dq_43 dp_cL_law rfl
theorem dL_law_716 : decode cL_law 716 = .ok (.aload_n 0, 1) := dq_42 dp_cL_law rfl
theorem dL_law_717 : decode cL_law 717 = .ok (.iload_n 3, 1) := dq_29 dp_cL_law rfl
theorem dL_law_718 : decode cL_law 718 = .ok (.iconst 1, 1) := dq_4 dp_cL_law rfl
theorem dL_law_719 : decode cL_law 719 = .ok (.iadd, 1) := dq_96 dp_cL_law rfl
theorem dL_law_720 : decode cL_law 720 = .ok (.iaload, 1) := dq_46 dp_cL_law rfl
theorem dL_law_721 : decode cL_law 721 = .ok (.invokevirtual 74, 3) := dq_182 dp_cL_law rfl
theorem dL_law_724 : decode cL_law 724 = .ok (.pop, 1) := dq_87 dp_cL_law rfl
theorem dL_law_725 : decode cL_law 725 = .ok (.aload_n 2, 1) := dq_44 dp_cL_law rfl
theorem dL_law_726 : decode cL_law 726 = .ok (.aload_n 0, 1) := dq_42 dp_cL_law rfl
theorem dL_law_727 : decode cL_law 727 = .ok (.iload_n 3, 1) := dq_29 dp_cL_law rfl
theorem dL_law_728 : decode cL_law 728 = .ok (.iconst 1, 1) := dq_4 dp_cL_law rfl
theorem dL_law_729 : decode cL_law 729 = .ok (.iadd, 1) := dq_96 dp_cL_law rfl
theorem dL_law_730 : decode cL_law 730 = .ok (.iaload, 1) := dq_46 dp_cL_law rfl
theorem dL_law_731 : decode cL_law 731 = .ok (.invokevirtual 77, 3) := dq_182 dp_cL_law rfl
theorem dL_law_734 : decode cL_law 734 = .ok (.pop, 1) := dq_87 dp_cL_law rfl
theorem dL_law_735 : decode cL_law 735 = .ok (.goto 635, 3) := dq_167 (v := 635) dp_cL_law rfl rfl
theorem dL_law_738 : decode cL_law 738 = .ok (.aload_n 1, 1) := dq_43 dp_cL_law rfl
theorem dL_law_739 : decode cL_law 739 = .ok (.invokevirtual 78, 3) := dq_182 dp_cL_law rfl
theorem dL_law_742 : decode cL_law 742 = .ok (.pop, 1) := dq_87 dp_cL_law rfl
theorem dL_law_743 : decode cL_law 743 = .ok (.aload_n 2, 1) := dq_44 dp_cL_law rfl
theorem dL_law_744 : decode cL_law 744 = .ok (.invokevirtual 82, 3) := dq_182 dp_cL_law rfl
theorem dL_law_747 : decode cL_law 747 = .ok (.pop, 1) := dq_87 dp_cL_law rfl
theorem dL_law_748 : decode cL_law 748 = .ok (.goto 622, 3) := dq_167 (v := 622) dp_cL_law rfl rfl
theorem dL_law_751 : decode cL_law 751 = .ok (.aload_n 1, 1) := dq_43 dp_cL_law rfl
theorem dL_law_752 : decode cL_law 752 = .ok (.aload_n 0, 1) := dq_42 dp_cL_law rfl
theorem dL_law_753 : decode cL_law 753 = .ok (.iload_n 3, 1) := dq_29 dp_cL_law rfl
theorem dL_law_754 : decode cL_law 754 = .ok (.iconst 1, 1) := dq_4 dp_cL_law rfl
theorem dL_law_755 : decode cL_law 755 = .ok (.iadd, 1) := dq_96 dp_cL_law rfl
theorem dL_law_756 : decode cL_law 756 = .ok (.iaload, 1) := dq_46 dp_cL_law rfl
theorem dL_law_757 : decode cL_law 757 = .ok (.aload_n 0, 1) := dq_42 dp_cL_law rfl
theorem dL_law_758 : decode cL_law 758 = .ok (.iload_n 3, 1) := dq_29 dp_cL_law rfl
theorem dL_law_759 : decode cL_law 759 = .ok (.iconst 2, 1) := dq_5 dp_cL_law rfl

