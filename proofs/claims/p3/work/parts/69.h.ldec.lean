theorem dL_438 : decode cL_law 438 = .ok (.iconst 2, 1) := by decide +kernel
theorem dL_439 : decode cL_law 439 = .ok (.iadd, 1) := by decide +kernel
theorem dL_440 : decode cL_law 440 = .ok (.iaload, 1) := by decide +kernel
theorem dL_441 : decode cL_law 441 = .ok (.invokevirtual 52, 3) := by decide +kernel
theorem dL_444 : decode cL_law 444 = .ok (.pop, 1) := by decide +kernel
theorem dL_445 : decode cL_law 445 = .ok (.goto 613, 3) := by decide +kernel
theorem dL_448 : decode cL_law 448 = .ok (.aload_n 1, 1) := by decide +kernel
theorem dL_449 : decode cL_law 449 = .ok (.aload_n 0, 1) := by decide +kernel
theorem dL_450 : decode cL_law 450 = .ok (.iload_n 3, 1) := by decide +kernel
theorem dL_451 : decode cL_law 451 = .ok (.iconst 1, 1) := by decide +kernel
theorem dL_452 : decode cL_law 452 = .ok (.iadd, 1) := by decide +kernel
theorem dL_453 : decode cL_law 453 = .ok (.iaload, 1) := by decide +kernel
theorem dL_454 : decode cL_law 454 = .ok (.invokevirtual 53, 3) := by decide +kernel
theorem dL_457 : decode cL_law 457 = .ok (.pop, 1) := by decide +kernel
theorem dL_458 : decode cL_law 458 = .ok (.aload_n 2, 1) := by decide +kernel
theorem dL_459 : decode cL_law 459 = .ok (.aload_n 0, 1) := by decide +kernel
theorem dL_460 : decode cL_law 460 = .ok (.iload_n 3, 1) := by decide +kernel
theorem dL_461 : decode cL_law 461 = .ok (.iconst 1, 1) := by decide +kernel
theorem dL_462 : decode cL_law 462 = .ok (.iadd, 1) := by decide +kernel
theorem dL_463 : decode cL_law 463 = .ok (.iaload, 1) := by decide +kernel
theorem dL_464 : decode cL_law 464 = .ok (.invokevirtual 56, 3) := by decide +kernel
theorem dL_467 : decode cL_law 467 = .ok (.pop, 1) := by decide +kernel
theorem dL_468 : decode cL_law 468 = .ok (.goto 590, 3) := by decide +kernel
theorem dL_471 : decode cL_law 471 = .ok (.aload_n 1, 1) := by decide +kernel
theorem dL_472 : decode cL_law 472 = .ok (.aload_n 0, 1) := by decide +kernel
theorem dL_473 : decode cL_law 473 = .ok (.iload_n 3, 1) := by decide +kernel
theorem dL_474 : decode cL_law 474 = .ok (.iconst 1, 1) := by decide +kernel
theorem dL_475 : decode cL_law 475 = .ok (.iadd, 1) := by decide +kernel
theorem dL_476 : decode cL_law 476 = .ok (.iaload, 1) := by decide +kernel
theorem dL_477 : decode cL_law 477 = .ok (.aload_n 0, 1) := by decide +kernel
theorem dL_478 : decode cL_law 478 = .ok (.iload_n 3, 1) := by decide +kernel
theorem dL_479 : decode cL_law 479 = .ok (.iconst 2, 1) := by decide +kernel
theorem dL_480 : decode cL_law 480 = .ok (.iadd, 1) := by decide +kernel
theorem dL_481 : decode cL_law 481 = .ok (.iaload, 1) := by decide +kernel
theorem dL_482 : decode cL_law 482 = .ok (.aload_n 0, 1) := by decide +kernel
theorem dL_483 : decode cL_law 483 = .ok (.iload_n 3, 1) := by decide +kernel
theorem dL_484 : decode cL_law 484 = .ok (.iconst 3, 1) := by decide +kernel
theorem dL_485 : decode cL_law 485 = .ok (.iadd, 1) := by decide +kernel
theorem dL_486 : decode cL_law 486 = .ok (.iaload, 1) := by decide +kernel
theorem dL_487 : decode cL_law 487 = .ok (.aload_n 0, 1) := by decide +kernel
theorem dL_488 : decode cL_law 488 = .ok (.iload_n 3, 1) := by decide +kernel
theorem dL_489 : decode cL_law 489 = .ok (.iconst 4, 1) := by decide +kernel
theorem dL_490 : decode cL_law 490 = .ok (.iadd, 1) := by decide +kernel
theorem dL_491 : decode cL_law 491 = .ok (.iaload, 1) := by decide +kernel
theorem dL_492 : decode cL_law 492 = .ok (.ifCond .eq 7, 3) := by decide +kernel
theorem dL_495 : decode cL_law 495 = .ok (.iconst 1, 1) := by decide +kernel
theorem dL_496 : decode cL_law 496 = .ok (.goto 4, 3) := by decide +kernel
theorem dL_499 : decode cL_law 499 = .ok (.iconst 0, 1) := by decide +kernel
theorem dL_500 : decode cL_law 500 = .ok (.invokevirtual 57, 3) := by decide +kernel
theorem dL_503 : decode cL_law 503 = .ok (.pop, 1) := by decide +kernel
theorem dL_504 : decode cL_law 504 = .ok (.aload_n 2, 1) := by decide +kernel
theorem dL_505 : decode cL_law 505 = .ok (.aload_n 0, 1) := by decide +kernel
theorem dL_506 : decode cL_law 506 = .ok (.iload_n 3, 1) := by decide +kernel
theorem dL_507 : decode cL_law 507 = .ok (.iconst 1, 1) := by decide +kernel
theorem dL_508 : decode cL_law 508 = .ok (.iadd, 1) := by decide +kernel
theorem dL_509 : decode cL_law 509 = .ok (.iaload, 1) := by decide +kernel
theorem dL_510 : decode cL_law 510 = .ok (.aload_n 0, 1) := by decide +kernel
theorem dL_511 : decode cL_law 511 = .ok (.iload_n 3, 1) := by decide +kernel
theorem dL_512 : decode cL_law 512 = .ok (.iconst 2, 1) := by decide +kernel
theorem dL_513 : decode cL_law 513 = .ok (.iadd, 1) := by decide +kernel
theorem dL_514 : decode cL_law 514 = .ok (.iaload, 1) := by decide +kernel
theorem dL_515 : decode cL_law 515 = .ok (.aload_n 0, 1) := by decide +kernel
theorem dL_516 : decode cL_law 516 = .ok (.iload_n 3, 1) := by decide +kernel
theorem dL_517 : decode cL_law 517 = .ok (.iconst 3, 1) := by decide +kernel
theorem dL_518 : decode cL_law 518 = .ok (.iadd, 1) := by decide +kernel
theorem dL_519 : decode cL_law 519 = .ok (.iaload, 1) := by decide +kernel
theorem dL_520 : decode cL_law 520 = .ok (.aload_n 0, 1) := by decide +kernel
theorem dL_521 : decode cL_law 521 = .ok (.iload_n 3, 1) := by decide +kernel
theorem dL_522 : decode cL_law 522 = .ok (.iconst 4, 1) := by decide +kernel
theorem dL_523 : decode cL_law 523 = .ok (.iadd, 1) := by decide +kernel
theorem dL_524 : decode cL_law 524 = .ok (.iaload, 1) := by decide +kernel
theorem dL_525 : decode cL_law 525 = .ok (.ifCond .eq 7, 3) := by decide +kernel
theorem dL_528 : decode cL_law 528 = .ok (.iconst 1, 1) := by decide +kernel
theorem dL_529 : decode cL_law 529 = .ok (.goto 4, 3) := by decide +kernel
theorem dL_532 : decode cL_law 532 = .ok (.iconst 0, 1) := by decide +kernel
theorem dL_533 : decode cL_law 533 = .ok (.invokevirtual 61, 3) := by decide +kernel
theorem dL_536 : decode cL_law 536 = .ok (.pop, 1) := by decide +kernel
theorem dL_537 : decode cL_law 537 = .ok (.goto 521, 3) := by decide +kernel
theorem dL_540 : decode cL_law 540 = .ok (.aload_n 1, 1) := by decide +kernel
theorem dL_541 : decode cL_law 541 = .ok (.aload_n 0, 1) := by decide +kernel
theorem dL_542 : decode cL_law 542 = .ok (.iload_n 3, 1) := by decide +kernel
theorem dL_543 : decode cL_law 543 = .ok (.iconst 1, 1) := by decide +kernel
theorem dL_544 : decode cL_law 544 = .ok (.iadd, 1) := by decide +kernel
theorem dL_545 : decode cL_law 545 = .ok (.iaload, 1) := by decide +kernel
theorem dL_546 : decode cL_law 546 = .ok (.aload_n 0, 1) := by decide +kernel
theorem dL_547 : decode cL_law 547 = .ok (.iload_n 3, 1) := by decide +kernel
theorem dL_548 : decode cL_law 548 = .ok (.iconst 2, 1) := by decide +kernel
theorem dL_549 : decode cL_law 549 = .ok (.iadd, 1) := by decide +kernel
theorem dL_550 : decode cL_law 550 = .ok (.iaload, 1) := by decide +kernel
theorem dL_551 : decode cL_law 551 = .ok (.aload_n 0, 1) := by decide +kernel
theorem dL_552 : decode cL_law 552 = .ok (.iload_n 3, 1) := by decide +kernel
theorem dL_553 : decode cL_law 553 = .ok (.iconst 3, 1) := by decide +kernel
theorem dL_554 : decode cL_law 554 = .ok (.iadd, 1) := by decide +kernel
theorem dL_555 : decode cL_law 555 = .ok (.iaload, 1) := by decide +kernel
theorem dL_556 : decode cL_law 556 = .ok (.i2l, 1) := by decide +kernel
theorem dL_557 : decode cL_law 557 = .ok (.bipush 32, 2) := by decide +kernel
theorem dL_559 : decode cL_law 559 = .ok (.lshl, 1) := by decide +kernel
theorem dL_560 : decode cL_law 560 = .ok (.aload_n 0, 1) := by decide +kernel
theorem dL_561 : decode cL_law 561 = .ok (.iload_n 3, 1) := by decide +kernel
theorem dL_562 : decode cL_law 562 = .ok (.iconst 4, 1) := by decide +kernel
theorem dL_563 : decode cL_law 563 = .ok (.iadd, 1) := by decide +kernel
theorem dL_564 : decode cL_law 564 = .ok (.iaload, 1) := by decide +kernel
theorem dL_565 : decode cL_law 565 = .ok (.i2l, 1) := by decide +kernel
theorem dL_566 : decode cL_law 566 = .ok (.ldc2_w 32, 3) := by decide +kernel
theorem dL_569 : decode cL_law 569 = .ok (.land, 1) := by decide +kernel
theorem dL_570 : decode cL_law 570 = .ok (.lor, 1) := by decide +kernel
theorem dL_571 : decode cL_law 571 = .ok (.aload_n 0, 1) := by decide +kernel
theorem dL_572 : decode cL_law 572 = .ok (.iload_n 3, 1) := by decide +kernel
theorem dL_573 : decode cL_law 573 = .ok (.iconst 5, 1) := by decide +kernel
theorem dL_574 : decode cL_law 574 = .ok (.iadd, 1) := by decide +kernel
theorem dL_575 : decode cL_law 575 = .ok (.iaload, 1) := by decide +kernel
theorem dL_576 : decode cL_law 576 = .ok (.ifCond .eq 7, 3) := by decide +kernel
theorem dL_579 : decode cL_law 579 = .ok (.iconst 1, 1) := by decide +kernel
theorem dL_580 : decode cL_law 580 = .ok (.goto 4, 3) := by decide +kernel
theorem dL_583 : decode cL_law 583 = .ok (.iconst 0, 1) := by decide +kernel
theorem dL_584 : decode cL_law 584 = .ok (.invokevirtual 62, 3) := by decide +kernel
theorem dL_587 : decode cL_law 587 = .ok (.pop, 1) := by decide +kernel
theorem dL_588 : decode cL_law 588 = .ok (.aload_n 2, 1) := by decide +kernel
theorem dL_589 : decode cL_law 589 = .ok (.aload_n 0, 1) := by decide +kernel
theorem dL_590 : decode cL_law 590 = .ok (.iload_n 3, 1) := by decide +kernel
theorem dL_591 : decode cL_law 591 = .ok (.iconst 1, 1) := by decide +kernel
theorem dL_592 : decode cL_law 592 = .ok (.iadd, 1) := by decide +kernel
theorem dL_593 : decode cL_law 593 = .ok (.iaload, 1) := by decide +kernel
theorem dL_594 : decode cL_law 594 = .ok (.aload_n 0, 1) := by decide +kernel
theorem dL_595 : decode cL_law 595 = .ok (.iload_n 3, 1) := by decide +kernel
theorem dL_596 : decode cL_law 596 = .ok (.iconst 2, 1) := by decide +kernel
theorem dL_597 : decode cL_law 597 = .ok (.iadd, 1) := by decide +kernel
theorem dL_598 : decode cL_law 598 = .ok (.iaload, 1) := by decide +kernel
theorem dL_599 : decode cL_law 599 = .ok (.aload_n 0, 1) := by decide +kernel
theorem dL_600 : decode cL_law 600 = .ok (.iload_n 3, 1) := by decide +kernel
theorem dL_601 : decode cL_law 601 = .ok (.iconst 3, 1) := by decide +kernel
theorem dL_602 : decode cL_law 602 = .ok (.iadd, 1) := by decide +kernel
theorem dL_603 : decode cL_law 603 = .ok (.iaload, 1) := by decide +kernel
theorem dL_604 : decode cL_law 604 = .ok (.i2l, 1) := by decide +kernel
theorem dL_605 : decode cL_law 605 = .ok (.bipush 32, 2) := by decide +kernel
theorem dL_607 : decode cL_law 607 = .ok (.lshl, 1) := by decide +kernel
theorem dL_608 : decode cL_law 608 = .ok (.aload_n 0, 1) := by decide +kernel
theorem dL_609 : decode cL_law 609 = .ok (.iload_n 3, 1) := by decide +kernel
theorem dL_610 : decode cL_law 610 = .ok (.iconst 4, 1) := by decide +kernel
theorem dL_611 : decode cL_law 611 = .ok (.iadd, 1) := by decide +kernel
theorem dL_612 : decode cL_law 612 = .ok (.iaload, 1) := by decide +kernel
theorem dL_613 : decode cL_law 613 = .ok (.i2l, 1) := by decide +kernel
theorem dL_614 : decode cL_law 614 = .ok (.ldc2_w 32, 3) := by decide +kernel
theorem dL_617 : decode cL_law 617 = .ok (.land, 1) := by decide +kernel
theorem dL_618 : decode cL_law 618 = .ok (.lor, 1) := by decide +kernel
theorem dL_619 : decode cL_law 619 = .ok (.aload_n 0, 1) := by decide +kernel
theorem dL_620 : decode cL_law 620 = .ok (.iload_n 3, 1) := by decide +kernel
theorem dL_621 : decode cL_law 621 = .ok (.iconst 5, 1) := by decide +kernel
theorem dL_622 : decode cL_law 622 = .ok (.iadd, 1) := by decide +kernel
theorem dL_623 : decode cL_law 623 = .ok (.iaload, 1) := by decide +kernel
theorem dL_624 : decode cL_law 624 = .ok (.ifCond .eq 7, 3) := by decide +kernel
theorem dL_627 : decode cL_law 627 = .ok (.iconst 1, 1) := by decide +kernel
theorem dL_628 : decode cL_law 628 = .ok (.goto 4, 3) := by decide +kernel
theorem dL_631 : decode cL_law 631 = .ok (.iconst 0, 1) := by decide +kernel
theorem dL_632 : decode cL_law 632 = .ok (.invokevirtual 66, 3) := by decide +kernel
theorem dL_635 : decode cL_law 635 = .ok (.pop, 1) := by decide +kernel
theorem dL_636 : decode cL_law 636 = .ok (.goto 422, 3) := by decide +kernel
theorem dL_639 : decode cL_law 639 = .ok (.aload_n 1, 1) := by decide +kernel
theorem dL_640 : decode cL_law 640 = .ok (.aload_n 0, 1) := by decide +kernel
theorem dL_641 : decode cL_law 641 = .ok (.iload_n 3, 1) := by decide +kernel
theorem dL_642 : decode cL_law 642 = .ok (.iconst 1, 1) := by decide +kernel
theorem dL_643 : decode cL_law 643 = .ok (.iadd, 1) := by decide +kernel
theorem dL_644 : decode cL_law 644 = .ok (.iaload, 1) := by decide +kernel
theorem dL_645 : decode cL_law 645 = .ok (.aload_n 0, 1) := by decide +kernel
theorem dL_646 : decode cL_law 646 = .ok (.iload_n 3, 1) := by decide +kernel
theorem dL_647 : decode cL_law 647 = .ok (.iconst 2, 1) := by decide +kernel
theorem dL_648 : decode cL_law 648 = .ok (.iadd, 1) := by decide +kernel
theorem dL_649 : decode cL_law 649 = .ok (.iaload, 1) := by decide +kernel
theorem dL_650 : decode cL_law 650 = .ok (.aload_n 0, 1) := by decide +kernel
theorem dL_651 : decode cL_law 651 = .ok (.iload_n 3, 1) := by decide +kernel
theorem dL_652 : decode cL_law 652 = .ok (.iconst 3, 1) := by decide +kernel
theorem dL_653 : decode cL_law 653 = .ok (.iadd, 1) := by decide +kernel
theorem dL_654 : decode cL_law 654 = .ok (.iaload, 1) := by decide +kernel
theorem dL_655 : decode cL_law 655 = .ok (.invokevirtual 67, 3) := by decide +kernel
theorem dL_658 : decode cL_law 658 = .ok (.pop, 1) := by decide +kernel
theorem dL_659 : decode cL_law 659 = .ok (.aload_n 2, 1) := by decide +kernel
theorem dL_660 : decode cL_law 660 = .ok (.aload_n 0, 1) := by decide +kernel
theorem dL_661 : decode cL_law 661 = .ok (.iload_n 3, 1) := by decide +kernel
theorem dL_662 : decode cL_law 662 = .ok (.iconst 1, 1) := by decide +kernel
theorem dL_663 : decode cL_law 663 = .ok (.iadd, 1) := by decide +kernel
theorem dL_664 : decode cL_law 664 = .ok (.iaload, 1) := by decide +kernel
theorem dL_665 : decode cL_law 665 = .ok (.aload_n 0, 1) := by decide +kernel
theorem dL_666 : decode cL_law 666 = .ok (.iload_n 3, 1) := by decide +kernel
theorem dL_667 : decode cL_law 667 = .ok (.iconst 2, 1) := by decide +kernel
theorem dL_668 : decode cL_law 668 = .ok (.iadd, 1) := by decide +kernel
theorem dL_669 : decode cL_law 669 = .ok (.iaload, 1) := by decide +kernel
theorem dL_670 : decode cL_law 670 = .ok (.aload_n 0, 1) := by decide +kernel
theorem dL_671 : decode cL_law 671 = .ok (.iload_n 3, 1) := by decide +kernel
theorem dL_672 : decode cL_law 672 = .ok (.iconst 3, 1) := by decide +kernel
theorem dL_673 : decode cL_law 673 = .ok (.iadd, 1) := by decide +kernel
theorem dL_674 : decode cL_law 674 = .ok (.iaload, 1) := by decide +kernel
theorem dL_675 : decode cL_law 675 = .ok (.invokevirtual 71, 3) := by decide +kernel
theorem dL_678 : decode cL_law 678 = .ok (.pop, 1) := by decide +kernel
theorem dL_679 : decode cL_law 679 = .ok (.goto 379, 3) := by decide +kernel
theorem dL_682 : decode cL_law 682 = .ok (.aload_n 1, 1) := by decide +kernel
theorem dL_683 : decode cL_law 683 = .ok (.aload_n 0, 1) := by decide +kernel
theorem dL_684 : decode cL_law 684 = .ok (.iload_n 3, 1) := by decide +kernel
theorem dL_685 : decode cL_law 685 = .ok (.iconst 1, 1) := by decide +kernel
theorem dL_686 : decode cL_law 686 = .ok (.iadd, 1) := by decide +kernel
theorem dL_687 : decode cL_law 687 = .ok (.iaload, 1) := by decide +kernel
theorem dL_688 : decode cL_law 688 = .ok (.aload_n 0, 1) := by decide +kernel
theorem dL_689 : decode cL_law 689 = .ok (.iload_n 3, 1) := by decide +kernel
theorem dL_690 : decode cL_law 690 = .ok (.iconst 2, 1) := by decide +kernel
theorem dL_691 : decode cL_law 691 = .ok (.iadd, 1) := by decide +kernel
theorem dL_692 : decode cL_law 692 = .ok (.iaload, 1) := by decide +kernel
theorem dL_693 : decode cL_law 693 = .ok (.aload_n 0, 1) := by decide +kernel
theorem dL_694 : decode cL_law 694 = .ok (.iload_n 3, 1) := by decide +kernel
theorem dL_695 : decode cL_law 695 = .ok (.iconst 3, 1) := by decide +kernel
theorem dL_696 : decode cL_law 696 = .ok (.iadd, 1) := by decide +kernel
theorem dL_697 : decode cL_law 697 = .ok (.iaload, 1) := by decide +kernel
theorem dL_698 : decode cL_law 698 = .ok (.invokevirtual 72, 3) := by decide +kernel
theorem dL_701 : decode cL_law 701 = .ok (.pop, 1) := by decide +kernel
theorem dL_702 : decode cL_law 702 = .ok (.aload_n 2, 1) := by decide +kernel
theorem dL_703 : decode cL_law 703 = .ok (.aload_n 0, 1) := by decide +kernel
theorem dL_704 : decode cL_law 704 = .ok (.iload_n 3, 1) := by decide +kernel
theorem dL_705 : decode cL_law 705 = .ok (.iconst 1, 1) := by decide +kernel
theorem dL_706 : decode cL_law 706 = .ok (.iadd, 1) := by decide +kernel
theorem dL_707 : decode cL_law 707 = .ok (.iaload, 1) := by decide +kernel
theorem dL_708 : decode cL_law 708 = .ok (.aload_n 0, 1) := by decide +kernel
theorem dL_709 : decode cL_law 709 = .ok (.iload_n 3, 1) := by decide +kernel
theorem dL_710 : decode cL_law 710 = .ok (.iconst 2, 1) := by decide +kernel
theorem dL_711 : decode cL_law 711 = .ok (.iadd, 1) := by decide +kernel
theorem dL_712 : decode cL_law 712 = .ok (.iaload, 1) := by decide +kernel
theorem dL_713 : decode cL_law 713 = .ok (.aload_n 0, 1) := by decide +kernel
theorem dL_714 : decode cL_law 714 = .ok (.iload_n 3, 1) := by decide +kernel
theorem dL_715 : decode cL_law 715 = .ok (.iconst 3, 1) := by decide +kernel
theorem dL_716 : decode cL_law 716 = .ok (.iadd, 1) := by decide +kernel
theorem dL_717 : decode cL_law 717 = .ok (.iaload, 1) := by decide +kernel
theorem dL_718 : decode cL_law 718 = .ok (.invokevirtual 76, 3) := by decide +kernel
theorem dL_721 : decode cL_law 721 = .ok (.pop, 1) := by decide +kernel
theorem dL_722 : decode cL_law 722 = .ok (.goto 336, 3) := by decide +kernel
theorem dL_725 : decode cL_law 725 = .ok (.aload_n 1, 1) := by decide +kernel
theorem dL_726 : decode cL_law 726 = .ok (.aload_n 0, 1) := by decide +kernel
theorem dL_727 : decode cL_law 727 = .ok (.iload_n 3, 1) := by decide +kernel
theorem dL_728 : decode cL_law 728 = .ok (.iconst 1, 1) := by decide +kernel
theorem dL_729 : decode cL_law 729 = .ok (.iadd, 1) := by decide +kernel
theorem dL_730 : decode cL_law 730 = .ok (.iaload, 1) := by decide +kernel
theorem dL_731 : decode cL_law 731 = .ok (.aload_n 0, 1) := by decide +kernel
theorem dL_732 : decode cL_law 732 = .ok (.iload_n 3, 1) := by decide +kernel
theorem dL_733 : decode cL_law 733 = .ok (.iconst 2, 1) := by decide +kernel
theorem dL_734 : decode cL_law 734 = .ok (.iadd, 1) := by decide +kernel
theorem dL_735 : decode cL_law 735 = .ok (.iaload, 1) := by decide +kernel
theorem dL_736 : decode cL_law 736 = .ok (.aload_n 0, 1) := by decide +kernel
theorem dL_737 : decode cL_law 737 = .ok (.iload_n 3, 1) := by decide +kernel
theorem dL_738 : decode cL_law 738 = .ok (.iconst 3, 1) := by decide +kernel
theorem dL_739 : decode cL_law 739 = .ok (.iadd, 1) := by decide +kernel
theorem dL_740 : decode cL_law 740 = .ok (.iaload, 1) := by decide +kernel
theorem dL_741 : decode cL_law 741 = .ok (.invokevirtual 77, 3) := by decide +kernel
theorem dL_744 : decode cL_law 744 = .ok (.pop, 1) := by decide +kernel
theorem dL_745 : decode cL_law 745 = .ok (.aload_n 2, 1) := by decide +kernel
theorem dL_746 : decode cL_law 746 = .ok (.aload_n 0, 1) := by decide +kernel
theorem dL_747 : decode cL_law 747 = .ok (.iload_n 3, 1) := by decide +kernel
theorem dL_748 : decode cL_law 748 = .ok (.iconst 1, 1) := by decide +kernel
theorem dL_749 : decode cL_law 749 = .ok (.iadd, 1) := by decide +kernel
theorem dL_750 : decode cL_law 750 = .ok (.iaload, 1) := by decide +kernel
theorem dL_751 : decode cL_law 751 = .ok (.aload_n 0, 1) := by decide +kernel
theorem dL_752 : decode cL_law 752 = .ok (.iload_n 3, 1) := by decide +kernel
theorem dL_753 : decode cL_law 753 = .ok (.iconst 2, 1) := by decide +kernel
theorem dL_754 : decode cL_law 754 = .ok (.iadd, 1) := by decide +kernel
theorem dL_755 : decode cL_law 755 = .ok (.iaload, 1) := by decide +kernel
