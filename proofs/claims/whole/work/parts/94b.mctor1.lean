/-! the constructor of SandLedgerModel: its instructions -/
theorem dX5_init_432 : decode cX5_init 432 = .ok (.aload_n 0, 1) := by decide +kernel
theorem dX5_init_433 : decode cX5_init 433 = .ok (.bipush 36, 2) := by decide +kernel
theorem dX5_init_435 : decode cX5_init 435 = .ok (.newarray .char, 2) := by decide +kernel
theorem dX5_init_437 : decode cX5_init 437 = .ok (.dup, 1) := by decide +kernel
theorem dX5_init_438 : decode cX5_init 438 = .ok (.iconst 0, 1) := by decide +kernel
theorem dX5_init_439 : decode cX5_init 439 = .ok (.bipush 102, 2) := by decide +kernel
theorem dX5_init_441 : decode cX5_init 441 = .ok (.castore, 1) := by decide +kernel
theorem dX5_init_442 : decode cX5_init 442 = .ok (.dup, 1) := by decide +kernel
theorem dX5_init_443 : decode cX5_init 443 = .ok (.iconst 1, 1) := by decide +kernel
theorem dX5_init_444 : decode cX5_init 444 = .ok (.bipush 114, 2) := by decide +kernel
theorem dX5_init_446 : decode cX5_init 446 = .ok (.castore, 1) := by decide +kernel
theorem dX5_init_447 : decode cX5_init 447 = .ok (.dup, 1) := by decide +kernel
theorem dX5_init_448 : decode cX5_init 448 = .ok (.iconst 2, 1) := by decide +kernel
theorem dX5_init_449 : decode cX5_init 449 = .ok (.bipush 111, 2) := by decide +kernel
theorem dX5_init_451 : decode cX5_init 451 = .ok (.castore, 1) := by decide +kernel
theorem dX5_init_452 : decode cX5_init 452 = .ok (.dup, 1) := by decide +kernel
theorem dX5_init_453 : decode cX5_init 453 = .ok (.iconst 3, 1) := by decide +kernel
theorem dX5_init_454 : decode cX5_init 454 = .ok (.bipush 109, 2) := by decide +kernel
theorem dX5_init_456 : decode cX5_init 456 = .ok (.castore, 1) := by decide +kernel
theorem dX5_init_457 : decode cX5_init 457 = .ok (.dup, 1) := by decide +kernel
theorem dX5_init_458 : decode cX5_init 458 = .ok (.iconst 4, 1) := by decide +kernel
theorem dX5_init_459 : decode cX5_init 459 = .ok (.bipush 32, 2) := by decide +kernel
theorem dX5_init_461 : decode cX5_init 461 = .ok (.castore, 1) := by decide +kernel
theorem dX5_init_462 : decode cX5_init 462 = .ok (.dup, 1) := by decide +kernel
theorem dX5_init_463 : decode cX5_init 463 = .ok (.iconst 5, 1) := by decide +kernel
theorem dX5_init_464 : decode cX5_init 464 = .ok (.bipush 32, 2) := by decide +kernel
theorem dX5_init_466 : decode cX5_init 466 = .ok (.castore, 1) := by decide +kernel
theorem dX5_init_467 : decode cX5_init 467 = .ok (.dup, 1) := by decide +kernel
theorem dX5_init_468 : decode cX5_init 468 = .ok (.bipush 6, 2) := by decide +kernel
theorem dX5_init_470 : decode cX5_init 470 = .ok (.bipush 32, 2) := by decide +kernel
theorem dX5_init_472 : decode cX5_init 472 = .ok (.castore, 1) := by decide +kernel
theorem dX5_init_473 : decode cX5_init 473 = .ok (.dup, 1) := by decide +kernel
theorem dX5_init_474 : decode cX5_init 474 = .ok (.bipush 7, 2) := by decide +kernel
theorem dX5_init_476 : decode cX5_init 476 = .ok (.bipush 32, 2) := by decide +kernel
theorem dX5_init_478 : decode cX5_init 478 = .ok (.castore, 1) := by decide +kernel
theorem dX5_init_479 : decode cX5_init 479 = .ok (.dup, 1) := by decide +kernel
theorem dX5_init_480 : decode cX5_init 480 = .ok (.bipush 8, 2) := by decide +kernel
theorem dX5_init_482 : decode cX5_init 482 = .ok (.bipush 32, 2) := by decide +kernel
theorem dX5_init_484 : decode cX5_init 484 = .ok (.castore, 1) := by decide +kernel
theorem dX5_init_485 : decode cX5_init 485 = .ok (.dup, 1) := by decide +kernel
theorem dX5_init_486 : decode cX5_init 486 = .ok (.bipush 9, 2) := by decide +kernel
theorem dX5_init_488 : decode cX5_init 488 = .ok (.bipush 119, 2) := by decide +kernel
theorem dX5_init_490 : decode cX5_init 490 = .ok (.castore, 1) := by decide +kernel
theorem dX5_init_491 : decode cX5_init 491 = .ok (.dup, 1) := by decide +kernel
theorem dX5_init_492 : decode cX5_init 492 = .ok (.bipush 10, 2) := by decide +kernel
theorem dX5_init_494 : decode cX5_init 494 = .ok (.bipush 105, 2) := by decide +kernel
theorem dX5_init_496 : decode cX5_init 496 = .ok (.castore, 1) := by decide +kernel
theorem dX5_init_497 : decode cX5_init 497 = .ok (.dup, 1) := by decide +kernel
theorem dX5_init_498 : decode cX5_init 498 = .ok (.bipush 11, 2) := by decide +kernel
theorem dX5_init_500 : decode cX5_init 500 = .ok (.bipush 100, 2) := by decide +kernel
theorem dX5_init_502 : decode cX5_init 502 = .ok (.castore, 1) := by decide +kernel
theorem dX5_init_503 : decode cX5_init 503 = .ok (.dup, 1) := by decide +kernel
theorem dX5_init_504 : decode cX5_init 504 = .ok (.bipush 12, 2) := by decide +kernel
theorem dX5_init_506 : decode cX5_init 506 = .ok (.bipush 101, 2) := by decide +kernel
theorem dX5_init_508 : decode cX5_init 508 = .ok (.castore, 1) := by decide +kernel
theorem dX5_init_509 : decode cX5_init 509 = .ok (.dup, 1) := by decide +kernel
theorem dX5_init_510 : decode cX5_init 510 = .ok (.bipush 13, 2) := by decide +kernel
theorem dX5_init_512 : decode cX5_init 512 = .ok (.bipush 32, 2) := by decide +kernel
theorem dX5_init_514 : decode cX5_init 514 = .ok (.castore, 1) := by decide +kernel
theorem dX5_init_515 : decode cX5_init 515 = .ok (.dup, 1) := by decide +kernel
theorem dX5_init_516 : decode cX5_init 516 = .ok (.bipush 14, 2) := by decide +kernel
theorem dX5_init_518 : decode cX5_init 518 = .ok (.bipush 32, 2) := by decide +kernel
theorem dX5_init_520 : decode cX5_init 520 = .ok (.castore, 1) := by decide +kernel
theorem dX5_init_521 : decode cX5_init 521 = .ok (.dup, 1) := by decide +kernel
theorem dX5_init_522 : decode cX5_init 522 = .ok (.bipush 15, 2) := by decide +kernel
theorem dX5_init_524 : decode cX5_init 524 = .ok (.bipush 32, 2) := by decide +kernel
theorem dX5_init_526 : decode cX5_init 526 = .ok (.castore, 1) := by decide +kernel
theorem dX5_init_527 : decode cX5_init 527 = .ok (.dup, 1) := by decide +kernel
theorem dX5_init_528 : decode cX5_init 528 = .ok (.bipush 16, 2) := by decide +kernel
theorem dX5_init_530 : decode cX5_init 530 = .ok (.bipush 32, 2) := by decide +kernel
theorem dX5_init_532 : decode cX5_init 532 = .ok (.castore, 1) := by decide +kernel
theorem dX5_init_533 : decode cX5_init 533 = .ok (.dup, 1) := by decide +kernel
theorem dX5_init_534 : decode cX5_init 534 = .ok (.bipush 17, 2) := by decide +kernel
theorem dX5_init_536 : decode cX5_init 536 = .ok (.bipush 32, 2) := by decide +kernel
theorem dX5_init_538 : decode cX5_init 538 = .ok (.castore, 1) := by decide +kernel
theorem dX5_init_539 : decode cX5_init 539 = .ok (.dup, 1) := by decide +kernel
theorem dX5_init_540 : decode cX5_init 540 = .ok (.bipush 18, 2) := by decide +kernel
theorem dX5_init_542 : decode cX5_init 542 = .ok (.bipush 104, 2) := by decide +kernel
theorem dX5_init_544 : decode cX5_init 544 = .ok (.castore, 1) := by decide +kernel
theorem dX5_init_545 : decode cX5_init 545 = .ok (.dup, 1) := by decide +kernel
theorem dX5_init_546 : decode cX5_init 546 = .ok (.bipush 19, 2) := by decide +kernel
theorem dX5_init_548 : decode cX5_init 548 = .ok (.bipush 105, 2) := by decide +kernel
theorem dX5_init_550 : decode cX5_init 550 = .ok (.castore, 1) := by decide +kernel
theorem dX5_init_551 : decode cX5_init 551 = .ok (.dup, 1) := by decide +kernel
theorem dX5_init_552 : decode cX5_init 552 = .ok (.bipush 20, 2) := by decide +kernel
theorem dX5_init_554 : decode cX5_init 554 = .ok (.bipush 103, 2) := by decide +kernel
theorem dX5_init_556 : decode cX5_init 556 = .ok (.castore, 1) := by decide +kernel
theorem dX5_init_557 : decode cX5_init 557 = .ok (.dup, 1) := by decide +kernel
theorem dX5_init_558 : decode cX5_init 558 = .ok (.bipush 21, 2) := by decide +kernel
theorem dX5_init_560 : decode cX5_init 560 = .ok (.bipush 104, 2) := by decide +kernel
theorem dX5_init_562 : decode cX5_init 562 = .ok (.castore, 1) := by decide +kernel
theorem dX5_init_563 : decode cX5_init 563 = .ok (.dup, 1) := by decide +kernel
theorem dX5_init_564 : decode cX5_init 564 = .ok (.bipush 22, 2) := by decide +kernel
theorem dX5_init_566 : decode cX5_init 566 = .ok (.bipush 32, 2) := by decide +kernel
theorem dX5_init_568 : decode cX5_init 568 = .ok (.castore, 1) := by decide +kernel
theorem dX5_init_569 : decode cX5_init 569 = .ok (.dup, 1) := by decide +kernel
theorem dX5_init_570 : decode cX5_init 570 = .ok (.bipush 23, 2) := by decide +kernel
theorem dX5_init_572 : decode cX5_init 572 = .ok (.bipush 32, 2) := by decide +kernel
theorem dX5_init_574 : decode cX5_init 574 = .ok (.castore, 1) := by decide +kernel
theorem dX5_init_575 : decode cX5_init 575 = .ok (.dup, 1) := by decide +kernel
theorem dX5_init_576 : decode cX5_init 576 = .ok (.bipush 24, 2) := by decide +kernel
theorem dX5_init_578 : decode cX5_init 578 = .ok (.bipush 32, 2) := by decide +kernel
theorem dX5_init_580 : decode cX5_init 580 = .ok (.castore, 1) := by decide +kernel
theorem dX5_init_581 : decode cX5_init 581 = .ok (.dup, 1) := by decide +kernel
theorem dX5_init_582 : decode cX5_init 582 = .ok (.bipush 25, 2) := by decide +kernel
theorem dX5_init_584 : decode cX5_init 584 = .ok (.bipush 32, 2) := by decide +kernel
theorem dX5_init_586 : decode cX5_init 586 = .ok (.castore, 1) := by decide +kernel
theorem dX5_init_587 : decode cX5_init 587 = .ok (.dup, 1) := by decide +kernel
theorem dX5_init_588 : decode cX5_init 588 = .ok (.bipush 26, 2) := by decide +kernel
theorem dX5_init_590 : decode cX5_init 590 = .ok (.bipush 32, 2) := by decide +kernel
theorem dX5_init_592 : decode cX5_init 592 = .ok (.castore, 1) := by decide +kernel
theorem dX5_init_593 : decode cX5_init 593 = .ok (.dup, 1) := by decide +kernel
theorem dX5_init_594 : decode cX5_init 594 = .ok (.bipush 27, 2) := by decide +kernel
theorem dX5_init_596 : decode cX5_init 596 = .ok (.bipush 101, 2) := by decide +kernel
theorem dX5_init_598 : decode cX5_init 598 = .ok (.castore, 1) := by decide +kernel
theorem dX5_init_599 : decode cX5_init 599 = .ok (.dup, 1) := by decide +kernel
theorem dX5_init_600 : decode cX5_init 600 = .ok (.bipush 28, 2) := by decide +kernel
theorem dX5_init_602 : decode cX5_init 602 = .ok (.bipush 97, 2) := by decide +kernel
theorem dX5_init_604 : decode cX5_init 604 = .ok (.castore, 1) := by decide +kernel
theorem dX5_init_605 : decode cX5_init 605 = .ok (.dup, 1) := by decide +kernel
theorem dX5_init_606 : decode cX5_init 606 = .ok (.bipush 29, 2) := by decide +kernel
theorem dX5_init_608 : decode cX5_init 608 = .ok (.bipush 99, 2) := by decide +kernel
theorem dX5_init_610 : decode cX5_init 610 = .ok (.castore, 1) := by decide +kernel
theorem dX5_init_611 : decode cX5_init 611 = .ok (.dup, 1) := by decide +kernel
theorem dX5_init_612 : decode cX5_init 612 = .ok (.bipush 30, 2) := by decide +kernel
theorem dX5_init_614 : decode cX5_init 614 = .ok (.bipush 104, 2) := by decide +kernel
theorem dX5_init_616 : decode cX5_init 616 = .ok (.castore, 1) := by decide +kernel
theorem dX5_init_617 : decode cX5_init 617 = .ok (.dup, 1) := by decide +kernel
theorem dX5_init_618 : decode cX5_init 618 = .ok (.bipush 31, 2) := by decide +kernel
theorem dX5_init_620 : decode cX5_init 620 = .ok (.bipush 32, 2) := by decide +kernel
theorem dX5_init_622 : decode cX5_init 622 = .ok (.castore, 1) := by decide +kernel
theorem dX5_init_623 : decode cX5_init 623 = .ok (.dup, 1) := by decide +kernel
theorem dX5_init_624 : decode cX5_init 624 = .ok (.bipush 32, 2) := by decide +kernel
theorem dX5_init_626 : decode cX5_init 626 = .ok (.bipush 32, 2) := by decide +kernel
theorem dX5_init_628 : decode cX5_init 628 = .ok (.castore, 1) := by decide +kernel
theorem dX5_init_629 : decode cX5_init 629 = .ok (.dup, 1) := by decide +kernel
theorem dX5_init_630 : decode cX5_init 630 = .ok (.bipush 33, 2) := by decide +kernel
theorem dX5_init_632 : decode cX5_init 632 = .ok (.bipush 32, 2) := by decide +kernel
theorem dX5_init_634 : decode cX5_init 634 = .ok (.castore, 1) := by decide +kernel
theorem dX5_init_635 : decode cX5_init 635 = .ok (.dup, 1) := by decide +kernel
theorem dX5_init_636 : decode cX5_init 636 = .ok (.bipush 34, 2) := by decide +kernel
theorem dX5_init_638 : decode cX5_init 638 = .ok (.bipush 32, 2) := by decide +kernel
theorem dX5_init_640 : decode cX5_init 640 = .ok (.castore, 1) := by decide +kernel
theorem dX5_init_641 : decode cX5_init 641 = .ok (.dup, 1) := by decide +kernel
theorem dX5_init_642 : decode cX5_init 642 = .ok (.bipush 35, 2) := by decide +kernel
theorem dX5_init_644 : decode cX5_init 644 = .ok (.bipush 32, 2) := by decide +kernel
theorem dX5_init_646 : decode cX5_init 646 = .ok (.castore, 1) := by decide +kernel
theorem dX5_init_647 : decode cX5_init 647 = .ok (.putfield 32, 3) := by decide +kernel
theorem dX5_init_650 : decode cX5_init 650 = .ok (.aload_n 0, 1) := by decide +kernel
theorem dX5_init_651 : decode cX5_init 651 = .ok (.bipush 36, 2) := by decide +kernel
theorem dX5_init_653 : decode cX5_init 653 = .ok (.newarray .char, 2) := by decide +kernel
theorem dX5_init_655 : decode cX5_init 655 = .ok (.dup, 1) := by decide +kernel
theorem dX5_init_656 : decode cX5_init 656 = .ok (.iconst 0, 1) := by decide +kernel
theorem dX5_init_657 : decode cX5_init 657 = .ok (.bipush 115, 2) := by decide +kernel
theorem dX5_init_659 : decode cX5_init 659 = .ok (.castore, 1) := by decide +kernel
theorem dX5_init_660 : decode cX5_init 660 = .ok (.dup, 1) := by decide +kernel
theorem dX5_init_661 : decode cX5_init 661 = .ok (.iconst 1, 1) := by decide +kernel
theorem dX5_init_662 : decode cX5_init 662 = .ok (.bipush 97, 2) := by decide +kernel
theorem dX5_init_664 : decode cX5_init 664 = .ok (.castore, 1) := by decide +kernel
theorem dX5_init_665 : decode cX5_init 665 = .ok (.dup, 1) := by decide +kernel
theorem dX5_init_666 : decode cX5_init 666 = .ok (.iconst 2, 1) := by decide +kernel
theorem dX5_init_667 : decode cX5_init 667 = .ok (.bipush 110, 2) := by decide +kernel
theorem dX5_init_669 : decode cX5_init 669 = .ok (.castore, 1) := by decide +kernel
theorem dX5_init_670 : decode cX5_init 670 = .ok (.dup, 1) := by decide +kernel
theorem dX5_init_671 : decode cX5_init 671 = .ok (.iconst 3, 1) := by decide +kernel
theorem dX5_init_672 : decode cX5_init 672 = .ok (.bipush 100, 2) := by decide +kernel
theorem dX5_init_674 : decode cX5_init 674 = .ok (.castore, 1) := by decide +kernel
theorem dX5_init_675 : decode cX5_init 675 = .ok (.dup, 1) := by decide +kernel
theorem dX5_init_676 : decode cX5_init 676 = .ok (.iconst 4, 1) := by decide +kernel
theorem dX5_init_677 : decode cX5_init 677 = .ok (.bipush 32, 2) := by decide +kernel
theorem dX5_init_679 : decode cX5_init 679 = .ok (.castore, 1) := by decide +kernel
theorem dX5_init_680 : decode cX5_init 680 = .ok (.dup, 1) := by decide +kernel
theorem dX5_init_681 : decode cX5_init 681 = .ok (.iconst 5, 1) := by decide +kernel
theorem dX5_init_682 : decode cX5_init 682 = .ok (.bipush 32, 2) := by decide +kernel
theorem dX5_init_684 : decode cX5_init 684 = .ok (.castore, 1) := by decide +kernel
theorem dX5_init_685 : decode cX5_init 685 = .ok (.dup, 1) := by decide +kernel
theorem dX5_init_686 : decode cX5_init 686 = .ok (.bipush 6, 2) := by decide +kernel
theorem dX5_init_688 : decode cX5_init 688 = .ok (.bipush 32, 2) := by decide +kernel
theorem dX5_init_690 : decode cX5_init 690 = .ok (.castore, 1) := by decide +kernel
theorem dX5_init_691 : decode cX5_init 691 = .ok (.dup, 1) := by decide +kernel
theorem dX5_init_692 : decode cX5_init 692 = .ok (.bipush 7, 2) := by decide +kernel
theorem dX5_init_694 : decode cX5_init 694 = .ok (.bipush 32, 2) := by decide +kernel
theorem dX5_init_696 : decode cX5_init 696 = .ok (.castore, 1) := by decide +kernel
theorem dX5_init_697 : decode cX5_init 697 = .ok (.dup, 1) := by decide +kernel
theorem dX5_init_698 : decode cX5_init 698 = .ok (.bipush 8, 2) := by decide +kernel
theorem dX5_init_700 : decode cX5_init 700 = .ok (.bipush 32, 2) := by decide +kernel
theorem dX5_init_702 : decode cX5_init 702 = .ok (.castore, 1) := by decide +kernel
theorem dX5_init_703 : decode cX5_init 703 = .ok (.dup, 1) := by decide +kernel
theorem dX5_init_704 : decode cX5_init 704 = .ok (.bipush 9, 2) := by decide +kernel
theorem dX5_init_706 : decode cX5_init 706 = .ok (.bipush 115, 2) := by decide +kernel
theorem dX5_init_708 : decode cX5_init 708 = .ok (.castore, 1) := by decide +kernel
theorem dX5_init_709 : decode cX5_init 709 = .ok (.dup, 1) := by decide +kernel
theorem dX5_init_710 : decode cX5_init 710 = .ok (.bipush 10, 2) := by decide +kernel
theorem dX5_init_712 : decode cX5_init 712 = .ok (.bipush 116, 2) := by decide +kernel
theorem dX5_init_714 : decode cX5_init 714 = .ok (.castore, 1) := by decide +kernel
theorem dX5_init_715 : decode cX5_init 715 = .ok (.dup, 1) := by decide +kernel
theorem dX5_init_716 : decode cX5_init 716 = .ok (.bipush 11, 2) := by decide +kernel
theorem dX5_init_718 : decode cX5_init 718 = .ok (.bipush 111, 2) := by decide +kernel
theorem dX5_init_720 : decode cX5_init 720 = .ok (.castore, 1) := by decide +kernel
theorem dX5_init_721 : decode cX5_init 721 = .ok (.dup, 1) := by decide +kernel
theorem dX5_init_722 : decode cX5_init 722 = .ok (.bipush 12, 2) := by decide +kernel
theorem dX5_init_724 : decode cX5_init 724 = .ok (.bipush 114, 2) := by decide +kernel
theorem dX5_init_726 : decode cX5_init 726 = .ok (.castore, 1) := by decide +kernel
theorem dX5_init_727 : decode cX5_init 727 = .ok (.dup, 1) := by decide +kernel
theorem dX5_init_728 : decode cX5_init 728 = .ok (.bipush 13, 2) := by decide +kernel
theorem dX5_init_730 : decode cX5_init 730 = .ok (.bipush 101, 2) := by decide +kernel
theorem dX5_init_732 : decode cX5_init 732 = .ok (.castore, 1) := by decide +kernel
theorem dX5_init_733 : decode cX5_init 733 = .ok (.dup, 1) := by decide +kernel
theorem dX5_init_734 : decode cX5_init 734 = .ok (.bipush 14, 2) := by decide +kernel
theorem dX5_init_736 : decode cX5_init 736 = .ok (.bipush 32, 2) := by decide +kernel
theorem dX5_init_738 : decode cX5_init 738 = .ok (.castore, 1) := by decide +kernel
theorem dX5_init_739 : decode cX5_init 739 = .ok (.dup, 1) := by decide +kernel
theorem dX5_init_740 : decode cX5_init 740 = .ok (.bipush 15, 2) := by decide +kernel
theorem dX5_init_742 : decode cX5_init 742 = .ok (.bipush 32, 2) := by decide +kernel
theorem dX5_init_744 : decode cX5_init 744 = .ok (.castore, 1) := by decide +kernel
theorem dX5_init_745 : decode cX5_init 745 = .ok (.dup, 1) := by decide +kernel
theorem dX5_init_746 : decode cX5_init 746 = .ok (.bipush 16, 2) := by decide +kernel
theorem dX5_init_748 : decode cX5_init 748 = .ok (.bipush 32, 2) := by decide +kernel
theorem dX5_init_750 : decode cX5_init 750 = .ok (.castore, 1) := by decide +kernel
theorem dX5_init_751 : decode cX5_init 751 = .ok (.dup, 1) := by decide +kernel
theorem dX5_init_752 : decode cX5_init 752 = .ok (.bipush 17, 2) := by decide +kernel
theorem dX5_init_754 : decode cX5_init 754 = .ok (.bipush 32, 2) := by decide +kernel
theorem dX5_init_756 : decode cX5_init 756 = .ok (.castore, 1) := by decide +kernel
theorem dX5_init_757 : decode cX5_init 757 = .ok (.dup, 1) := by decide +kernel
theorem dX5_init_758 : decode cX5_init 758 = .ok (.bipush 18, 2) := by decide +kernel
theorem dX5_init_760 : decode cX5_init 760 = .ok (.bipush 119, 2) := by decide +kernel
theorem dX5_init_762 : decode cX5_init 762 = .ok (.castore, 1) := by decide +kernel
theorem dX5_init_763 : decode cX5_init 763 = .ok (.dup, 1) := by decide +kernel
theorem dX5_init_764 : decode cX5_init 764 = .ok (.bipush 19, 2) := by decide +kernel
theorem dX5_init_766 : decode cX5_init 766 = .ok (.bipush 105, 2) := by decide +kernel
theorem dX5_init_768 : decode cX5_init 768 = .ok (.castore, 1) := by decide +kernel
theorem dX5_init_769 : decode cX5_init 769 = .ok (.dup, 1) := by decide +kernel
theorem dX5_init_770 : decode cX5_init 770 = .ok (.bipush 20, 2) := by decide +kernel
theorem dX5_init_772 : decode cX5_init 772 = .ok (.bipush 110, 2) := by decide +kernel
theorem dX5_init_774 : decode cX5_init 774 = .ok (.castore, 1) := by decide +kernel
theorem dX5_init_775 : decode cX5_init 775 = .ok (.dup, 1) := by decide +kernel
theorem dX5_init_776 : decode cX5_init 776 = .ok (.bipush 21, 2) := by decide +kernel
theorem dX5_init_778 : decode cX5_init 778 = .ok (.bipush 100, 2) := by decide +kernel
theorem dX5_init_780 : decode cX5_init 780 = .ok (.castore, 1) := by decide +kernel
theorem dX5_init_781 : decode cX5_init 781 = .ok (.dup, 1) := by decide +kernel
theorem dX5_init_782 : decode cX5_init 782 = .ok (.bipush 22, 2) := by decide +kernel
theorem dX5_init_784 : decode cX5_init 784 = .ok (.bipush 32, 2) := by decide +kernel
theorem dX5_init_786 : decode cX5_init 786 = .ok (.castore, 1) := by decide +kernel
theorem dX5_init_787 : decode cX5_init 787 = .ok (.dup, 1) := by decide +kernel
theorem dX5_init_788 : decode cX5_init 788 = .ok (.bipush 23, 2) := by decide +kernel
theorem dX5_init_790 : decode cX5_init 790 = .ok (.bipush 32, 2) := by decide +kernel
theorem dX5_init_792 : decode cX5_init 792 = .ok (.castore, 1) := by decide +kernel
theorem dX5_init_793 : decode cX5_init 793 = .ok (.dup, 1) := by decide +kernel
theorem dX5_init_794 : decode cX5_init 794 = .ok (.bipush 24, 2) := by decide +kernel
theorem dX5_init_796 : decode cX5_init 796 = .ok (.bipush 32, 2) := by decide +kernel
theorem dX5_init_798 : decode cX5_init 798 = .ok (.castore, 1) := by decide +kernel
theorem dX5_init_799 : decode cX5_init 799 = .ok (.dup, 1) := by decide +kernel
theorem dX5_init_800 : decode cX5_init 800 = .ok (.bipush 25, 2) := by decide +kernel
theorem dX5_init_802 : decode cX5_init 802 = .ok (.bipush 32, 2) := by decide +kernel
theorem dX5_init_804 : decode cX5_init 804 = .ok (.castore, 1) := by decide +kernel
theorem dX5_init_805 : decode cX5_init 805 = .ok (.dup, 1) := by decide +kernel
theorem dX5_init_806 : decode cX5_init 806 = .ok (.bipush 26, 2) := by decide +kernel
theorem dX5_init_808 : decode cX5_init 808 = .ok (.bipush 32, 2) := by decide +kernel
theorem dX5_init_810 : decode cX5_init 810 = .ok (.castore, 1) := by decide +kernel
theorem dX5_init_811 : decode cX5_init 811 = .ok (.dup, 1) := by decide +kernel
theorem dX5_init_812 : decode cX5_init 812 = .ok (.bipush 27, 2) := by decide +kernel
theorem dX5_init_814 : decode cX5_init 814 = .ok (.bipush 119, 2) := by decide +kernel
theorem dX5_init_816 : decode cX5_init 816 = .ok (.castore, 1) := by decide +kernel
theorem dX5_init_817 : decode cX5_init 817 = .ok (.dup, 1) := by decide +kernel
theorem dX5_init_818 : decode cX5_init 818 = .ok (.bipush 28, 2) := by decide +kernel
theorem dX5_init_820 : decode cX5_init 820 = .ok (.bipush 101, 2) := by decide +kernel
theorem dX5_init_822 : decode cX5_init 822 = .ok (.castore, 1) := by decide +kernel
theorem dX5_init_823 : decode cX5_init 823 = .ok (.dup, 1) := by decide +kernel
theorem dX5_init_824 : decode cX5_init 824 = .ok (.bipush 29, 2) := by decide +kernel
theorem dX5_init_826 : decode cX5_init 826 = .ok (.bipush 116, 2) := by decide +kernel
theorem dX5_init_828 : decode cX5_init 828 = .ok (.castore, 1) := by decide +kernel
theorem dX5_init_829 : decode cX5_init 829 = .ok (.dup, 1) := by decide +kernel
theorem dX5_init_830 : decode cX5_init 830 = .ok (.bipush 30, 2) := by decide +kernel
theorem dX5_init_832 : decode cX5_init 832 = .ok (.bipush 32, 2) := by decide +kernel
theorem dX5_init_834 : decode cX5_init 834 = .ok (.castore, 1) := by decide +kernel
theorem dX5_init_835 : decode cX5_init 835 = .ok (.dup, 1) := by decide +kernel
theorem dX5_init_836 : decode cX5_init 836 = .ok (.bipush 31, 2) := by decide +kernel
theorem dX5_init_838 : decode cX5_init 838 = .ok (.bipush 32, 2) := by decide +kernel
theorem dX5_init_840 : decode cX5_init 840 = .ok (.castore, 1) := by decide +kernel
theorem dX5_init_841 : decode cX5_init 841 = .ok (.dup, 1) := by decide +kernel
theorem dX5_init_842 : decode cX5_init 842 = .ok (.bipush 32, 2) := by decide +kernel
theorem dX5_init_844 : decode cX5_init 844 = .ok (.bipush 32, 2) := by decide +kernel
theorem dX5_init_846 : decode cX5_init 846 = .ok (.castore, 1) := by decide +kernel
theorem dX5_init_847 : decode cX5_init 847 = .ok (.dup, 1) := by decide +kernel
theorem dX5_init_848 : decode cX5_init 848 = .ok (.bipush 33, 2) := by decide +kernel
theorem dX5_init_850 : decode cX5_init 850 = .ok (.bipush 32, 2) := by decide +kernel
theorem dX5_init_852 : decode cX5_init 852 = .ok (.castore, 1) := by decide +kernel
theorem dX5_init_853 : decode cX5_init 853 = .ok (.dup, 1) := by decide +kernel
theorem dX5_init_854 : decode cX5_init 854 = .ok (.bipush 34, 2) := by decide +kernel
theorem dX5_init_856 : decode cX5_init 856 = .ok (.bipush 32, 2) := by decide +kernel
theorem dX5_init_858 : decode cX5_init 858 = .ok (.castore, 1) := by decide +kernel
theorem dX5_init_859 : decode cX5_init 859 = .ok (.dup, 1) := by decide +kernel
theorem dX5_init_860 : decode cX5_init 860 = .ok (.bipush 35, 2) := by decide +kernel
theorem dX5_init_862 : decode cX5_init 862 = .ok (.bipush 32, 2) := by decide +kernel
theorem dX5_init_864 : decode cX5_init 864 = .ok (.castore, 1) := by decide +kernel
theorem dX5_init_865 : decode cX5_init 865 = .ok (.putfield 35, 3) := by decide +kernel
theorem dX5_init_868 : decode cX5_init 868 = .ok (.aload_n 0, 1) := by decide +kernel
theorem dX5_init_869 : decode cX5_init 869 = .ok (.iconst 4, 1) := by decide +kernel
theorem dX5_init_870 : decode cX5_init 870 = .ok (.newarray .int, 2) := by decide +kernel
theorem dX5_init_872 : decode cX5_init 872 = .ok (.putfield 38, 3) := by decide +kernel
theorem dX5_init_875 : decode cX5_init 875 = .ok (.aload_n 0, 1) := by decide +kernel
theorem dX5_init_876 : decode cX5_init 876 = .ok (.iconst 4, 1) := by decide +kernel
theorem dX5_init_877 : decode cX5_init 877 = .ok (.newarray .int, 2) := by decide +kernel
theorem dX5_init_879 : decode cX5_init 879 = .ok (.putfield 41, 3) := by decide +kernel
theorem dX5_init_882 : decode cX5_init 882 = .ok (.aload_n 0, 1) := by decide +kernel
theorem dX5_init_883 : decode cX5_init 883 = .ok (.sipush 160, 3) := by decide +kernel
theorem dX5_init_886 : decode cX5_init 886 = .ok (.newarray .int, 2) := by decide +kernel
theorem dX5_init_888 : decode cX5_init 888 = .ok (.putfield 44, 3) := by decide +kernel
theorem dX5_init_891 : decode cX5_init 891 = .ok (.aload_n 0, 1) := by decide +kernel
theorem dX5_init_892 : decode cX5_init 892 = .ok (.bipush 40, 2) := by decide +kernel
theorem dX5_init_894 : decode cX5_init 894 = .ok (.newarray .int, 2) := by decide +kernel
theorem dX5_init_896 : decode cX5_init 896 = .ok (.putfield 47, 3) := by decide +kernel
theorem dX5_init_899 : decode cX5_init 899 = .ok (.aload_n 0, 1) := by decide +kernel
theorem dX5_init_900 : decode cX5_init 900 = .ok (.getfield 9, 3) := by decide +kernel
theorem dX5_init_903 : decode cX5_init 903 = .ok (.iconst 2, 1) := by decide +kernel
theorem dX5_init_904 : decode cX5_init 904 = .ok (.iconst 1, 1) := by decide +kernel
theorem dX5_init_905 : decode cX5_init 905 = .ok (.iastore, 1) := by decide +kernel
theorem dX5_init_906 : decode cX5_init 906 = .ok (.aload_n 0, 1) := by decide +kernel
theorem dX5_init_907 : decode cX5_init 907 = .ok (.getfield 9, 3) := by decide +kernel
theorem dX5_init_910 : decode cX5_init 910 = .ok (.iconst 3, 1) := by decide +kernel
theorem dX5_init_911 : decode cX5_init 911 = .ok (.bipush 100, 2) := by decide +kernel
theorem dX5_init_913 : decode cX5_init 913 = .ok (.iastore, 1) := by decide +kernel
theorem dX5_init_914 : decode cX5_init 914 = .ok (.aload_n 0, 1) := by decide +kernel
theorem dX5_init_915 : decode cX5_init 915 = .ok (.getfield 9, 3) := by decide +kernel
theorem dX5_init_918 : decode cX5_init 918 = .ok (.iconst 4, 1) := by decide +kernel
theorem dX5_init_919 : decode cX5_init 919 = .ok (.iconst 1, 1) := by decide +kernel
theorem dX5_init_920 : decode cX5_init 920 = .ok (.iastore, 1) := by decide +kernel
theorem dX5_init_921 : decode cX5_init 921 = .ok (.aload_n 0, 1) := by decide +kernel
theorem dX5_init_922 : decode cX5_init 922 = .ok (.getfield 9, 3) := by decide +kernel
theorem dX5_init_925 : decode cX5_init 925 = .ok (.iconst 5, 1) := by decide +kernel
theorem dX5_init_926 : decode cX5_init 926 = .ok (.iconst 2, 1) := by decide +kernel
theorem dX5_init_927 : decode cX5_init 927 = .ok (.iastore, 1) := by decide +kernel
theorem dX5_init_928 : decode cX5_init 928 = .ok (.iconst 0, 1) := by decide +kernel
theorem dX5_init_929 : decode cX5_init 929 = .ok (.istore_n 1, 1) := by decide +kernel
theorem dX5_init_930 : decode cX5_init 930 = .ok (.iload_n 1, 1) := by decide +kernel
theorem dX5_init_931 : decode cX5_init 931 = .ok (.bipush 16, 2) := by decide +kernel
theorem dX5_init_933 : decode cX5_init 933 = .ok (.if_icmp .ge 19, 3) := by decide +kernel
theorem dX5_init_936 : decode cX5_init 936 = .ok (.aload_n 0, 1) := by decide +kernel
theorem dX5_init_937 : decode cX5_init 937 = .ok (.getfield 9, 3) := by decide +kernel
theorem dX5_init_940 : decode cX5_init 940 = .ok (.bipush 6, 2) := by decide +kernel
theorem dX5_init_942 : decode cX5_init 942 = .ok (.iload_n 1, 1) := by decide +kernel
theorem dX5_init_943 : decode cX5_init 943 = .ok (.iadd, 1) := by decide +kernel
theorem dX5_init_944 : decode cX5_init 944 = .ok (.iconst 5, 1) := by decide +kernel
theorem dX5_init_945 : decode cX5_init 945 = .ok (.iastore, 1) := by decide +kernel
theorem dX5_init_946 : decode cX5_init 946 = .ok (.iinc 1 1, 3) := by decide +kernel
theorem dX5_init_949 : decode cX5_init 949 = .ok (.goto (-19), 3) := by decide +kernel
theorem dX5_init_952 : decode cX5_init 952 = .ok (.iconst 0, 1) := by decide +kernel
theorem dX5_init_953 : decode cX5_init 953 = .ok (.istore_n 1, 1) := by decide +kernel
theorem dX5_init_954 : decode cX5_init 954 = .ok (.iload_n 1, 1) := by decide +kernel
theorem dX5_init_955 : decode cX5_init 955 = .ok (.bipush 10, 2) := by decide +kernel
theorem dX5_init_957 : decode cX5_init 957 = .ok (.if_icmp .ge 19, 3) := by decide +kernel
theorem dX5_init_960 : decode cX5_init 960 = .ok (.aload_n 0, 1) := by decide +kernel
theorem dX5_init_961 : decode cX5_init 961 = .ok (.getfield 9, 3) := by decide +kernel
theorem dX5_init_964 : decode cX5_init 964 = .ok (.bipush 78, 2) := by decide +kernel
theorem dX5_init_966 : decode cX5_init 966 = .ok (.iload_n 1, 1) := by decide +kernel
theorem dX5_init_967 : decode cX5_init 967 = .ok (.iadd, 1) := by decide +kernel
theorem dX5_init_968 : decode cX5_init 968 = .ok (.iconst (-1), 1) := by decide +kernel
theorem dX5_init_969 : decode cX5_init 969 = .ok (.iastore, 1) := by decide +kernel
theorem dX5_init_970 : decode cX5_init 970 = .ok (.iinc 1 1, 3) := by decide +kernel
theorem dX5_init_973 : decode cX5_init 973 = .ok (.goto (-19), 3) := by decide +kernel
theorem dX5_init_976 : decode cX5_init 976 = .ok (.return_, 1) := by decide +kernel
theorem o5_init : okName yX5_init 0 := ⟨by decide, by decide, by decide +kernel⟩
