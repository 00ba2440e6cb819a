theorem dX2_init_480 : decode cX2_init 480 = .ok (.bipush 8, 2) := by decide +kernel
theorem dX2_init_482 : decode cX2_init 482 = .ok (.iastore, 1) := by decide +kernel
theorem dX2_init_483 : decode cX2_init 483 = .ok (.dup, 1) := by decide +kernel
theorem dX2_init_484 : decode cX2_init 484 = .ok (.bipush 78, 2) := by decide +kernel
theorem dX2_init_486 : decode cX2_init 486 = .ok (.iconst 3, 1) := by decide +kernel
theorem dX2_init_487 : decode cX2_init 487 = .ok (.iastore, 1) := by decide +kernel
theorem dX2_init_488 : decode cX2_init 488 = .ok (.dup, 1) := by decide +kernel
theorem dX2_init_489 : decode cX2_init 489 = .ok (.bipush 79, 2) := by decide +kernel
theorem dX2_init_491 : decode cX2_init 491 = .ok (.bipush 13, 2) := by decide +kernel
theorem dX2_init_493 : decode cX2_init 493 = .ok (.iastore, 1) := by decide +kernel
theorem dX2_init_494 : decode cX2_init 494 = .ok (.dup, 1) := by decide +kernel
theorem dX2_init_495 : decode cX2_init 495 = .ok (.bipush 80, 2) := by decide +kernel
theorem dX2_init_497 : decode cX2_init 497 = .ok (.iconst 2, 1) := by decide +kernel
theorem dX2_init_498 : decode cX2_init 498 = .ok (.iastore, 1) := by decide +kernel
theorem dX2_init_499 : decode cX2_init 499 = .ok (.dup, 1) := by decide +kernel
theorem dX2_init_500 : decode cX2_init 500 = .ok (.bipush 81, 2) := by decide +kernel
theorem dX2_init_502 : decode cX2_init 502 = .ok (.bipush 12, 2) := by decide +kernel
theorem dX2_init_504 : decode cX2_init 504 = .ok (.iastore, 1) := by decide +kernel
theorem dX2_init_505 : decode cX2_init 505 = .ok (.dup, 1) := by decide +kernel
theorem dX2_init_506 : decode cX2_init 506 = .ok (.bipush 82, 2) := by decide +kernel
theorem dX2_init_508 : decode cX2_init 508 = .ok (.bipush 6, 2) := by decide +kernel
theorem dX2_init_510 : decode cX2_init 510 = .ok (.iastore, 1) := by decide +kernel
theorem dX2_init_511 : decode cX2_init 511 = .ok (.dup, 1) := by decide +kernel
theorem dX2_init_512 : decode cX2_init 512 = .ok (.bipush 83, 2) := by decide +kernel
theorem dX2_init_514 : decode cX2_init 514 = .ok (.bipush 10, 2) := by decide +kernel
theorem dX2_init_516 : decode cX2_init 516 = .ok (.iastore, 1) := by decide +kernel
theorem dX2_init_517 : decode cX2_init 517 = .ok (.dup, 1) := by decide +kernel
theorem dX2_init_518 : decode cX2_init 518 = .ok (.bipush 84, 2) := by decide +kernel
theorem dX2_init_520 : decode cX2_init 520 = .ok (.iconst 0, 1) := by decide +kernel
theorem dX2_init_521 : decode cX2_init 521 = .ok (.iastore, 1) := by decide +kernel
theorem dX2_init_522 : decode cX2_init 522 = .ok (.dup, 1) := by decide +kernel
theorem dX2_init_523 : decode cX2_init 523 = .ok (.bipush 85, 2) := by decide +kernel
theorem dX2_init_525 : decode cX2_init 525 = .ok (.bipush 11, 2) := by decide +kernel
theorem dX2_init_527 : decode cX2_init 527 = .ok (.iastore, 1) := by decide +kernel
theorem dX2_init_528 : decode cX2_init 528 = .ok (.dup, 1) := by decide +kernel
theorem dX2_init_529 : decode cX2_init 529 = .ok (.bipush 86, 2) := by decide +kernel
theorem dX2_init_531 : decode cX2_init 531 = .ok (.bipush 8, 2) := by decide +kernel
theorem dX2_init_533 : decode cX2_init 533 = .ok (.iastore, 1) := by decide +kernel
theorem dX2_init_534 : decode cX2_init 534 = .ok (.dup, 1) := by decide +kernel
theorem dX2_init_535 : decode cX2_init 535 = .ok (.bipush 87, 2) := by decide +kernel
theorem dX2_init_537 : decode cX2_init 537 = .ok (.iconst 3, 1) := by decide +kernel
theorem dX2_init_538 : decode cX2_init 538 = .ok (.iastore, 1) := by decide +kernel
theorem dX2_init_539 : decode cX2_init 539 = .ok (.dup, 1) := by decide +kernel
theorem dX2_init_540 : decode cX2_init 540 = .ok (.bipush 88, 2) := by decide +kernel
theorem dX2_init_542 : decode cX2_init 542 = .ok (.iconst 4, 1) := by decide +kernel
theorem dX2_init_543 : decode cX2_init 543 = .ok (.iastore, 1) := by decide +kernel
theorem dX2_init_544 : decode cX2_init 544 = .ok (.dup, 1) := by decide +kernel
theorem dX2_init_545 : decode cX2_init 545 = .ok (.bipush 89, 2) := by decide +kernel
theorem dX2_init_547 : decode cX2_init 547 = .ok (.bipush 13, 2) := by decide +kernel
theorem dX2_init_549 : decode cX2_init 549 = .ok (.iastore, 1) := by decide +kernel
theorem dX2_init_550 : decode cX2_init 550 = .ok (.dup, 1) := by decide +kernel
theorem dX2_init_551 : decode cX2_init 551 = .ok (.bipush 90, 2) := by decide +kernel
theorem dX2_init_553 : decode cX2_init 553 = .ok (.bipush 7, 2) := by decide +kernel
theorem dX2_init_555 : decode cX2_init 555 = .ok (.iastore, 1) := by decide +kernel
theorem dX2_init_556 : decode cX2_init 556 = .ok (.dup, 1) := by decide +kernel
theorem dX2_init_557 : decode cX2_init 557 = .ok (.bipush 91, 2) := by decide +kernel
theorem dX2_init_559 : decode cX2_init 559 = .ok (.iconst 5, 1) := by decide +kernel
theorem dX2_init_560 : decode cX2_init 560 = .ok (.iastore, 1) := by decide +kernel
theorem dX2_init_561 : decode cX2_init 561 = .ok (.dup, 1) := by decide +kernel
theorem dX2_init_562 : decode cX2_init 562 = .ok (.bipush 92, 2) := by decide +kernel
theorem dX2_init_564 : decode cX2_init 564 = .ok (.bipush 15, 2) := by decide +kernel
theorem dX2_init_566 : decode cX2_init 566 = .ok (.iastore, 1) := by decide +kernel
theorem dX2_init_567 : decode cX2_init 567 = .ok (.dup, 1) := by decide +kernel
theorem dX2_init_568 : decode cX2_init 568 = .ok (.bipush 93, 2) := by decide +kernel
theorem dX2_init_570 : decode cX2_init 570 = .ok (.bipush 14, 2) := by decide +kernel
theorem dX2_init_572 : decode cX2_init 572 = .ok (.iastore, 1) := by decide +kernel
theorem dX2_init_573 : decode cX2_init 573 = .ok (.dup, 1) := by decide +kernel
theorem dX2_init_574 : decode cX2_init 574 = .ok (.bipush 94, 2) := by decide +kernel
theorem dX2_init_576 : decode cX2_init 576 = .ok (.iconst 1, 1) := by decide +kernel
theorem dX2_init_577 : decode cX2_init 577 = .ok (.iastore, 1) := by decide +kernel
theorem dX2_init_578 : decode cX2_init 578 = .ok (.dup, 1) := by decide +kernel
theorem dX2_init_579 : decode cX2_init 579 = .ok (.bipush 95, 2) := by decide +kernel
theorem dX2_init_581 : decode cX2_init 581 = .ok (.bipush 9, 2) := by decide +kernel
theorem dX2_init_583 : decode cX2_init 583 = .ok (.iastore, 1) := by decide +kernel
theorem dX2_init_584 : decode cX2_init 584 = .ok (.dup, 1) := by decide +kernel
theorem dX2_init_585 : decode cX2_init 585 = .ok (.bipush 96, 2) := by decide +kernel
theorem dX2_init_587 : decode cX2_init 587 = .ok (.bipush 12, 2) := by decide +kernel
theorem dX2_init_589 : decode cX2_init 589 = .ok (.iastore, 1) := by decide +kernel
theorem dX2_init_590 : decode cX2_init 590 = .ok (.dup, 1) := by decide +kernel
theorem dX2_init_591 : decode cX2_init 591 = .ok (.bipush 97, 2) := by decide +kernel
theorem dX2_init_593 : decode cX2_init 593 = .ok (.iconst 5, 1) := by decide +kernel
theorem dX2_init_594 : decode cX2_init 594 = .ok (.iastore, 1) := by decide +kernel
theorem dX2_init_595 : decode cX2_init 595 = .ok (.dup, 1) := by decide +kernel
theorem dX2_init_596 : decode cX2_init 596 = .ok (.bipush 98, 2) := by decide +kernel
theorem dX2_init_598 : decode cX2_init 598 = .ok (.iconst 1, 1) := by decide +kernel
theorem dX2_init_599 : decode cX2_init 599 = .ok (.iastore, 1) := by decide +kernel
theorem dX2_init_600 : decode cX2_init 600 = .ok (.dup, 1) := by decide +kernel
theorem dX2_init_601 : decode cX2_init 601 = .ok (.bipush 99, 2) := by decide +kernel
theorem dX2_init_603 : decode cX2_init 603 = .ok (.bipush 15, 2) := by decide +kernel
theorem dX2_init_605 : decode cX2_init 605 = .ok (.iastore, 1) := by decide +kernel
theorem dX2_init_606 : decode cX2_init 606 = .ok (.dup, 1) := by decide +kernel
theorem dX2_init_607 : decode cX2_init 607 = .ok (.bipush 100, 2) := by decide +kernel
theorem dX2_init_609 : decode cX2_init 609 = .ok (.bipush 14, 2) := by decide +kernel
theorem dX2_init_611 : decode cX2_init 611 = .ok (.iastore, 1) := by decide +kernel
theorem dX2_init_612 : decode cX2_init 612 = .ok (.dup, 1) := by decide +kernel
theorem dX2_init_613 : decode cX2_init 613 = .ok (.bipush 101, 2) := by decide +kernel
theorem dX2_init_615 : decode cX2_init 615 = .ok (.bipush 13, 2) := by decide +kernel
theorem dX2_init_617 : decode cX2_init 617 = .ok (.iastore, 1) := by decide +kernel
theorem dX2_init_618 : decode cX2_init 618 = .ok (.dup, 1) := by decide +kernel
theorem dX2_init_619 : decode cX2_init 619 = .ok (.bipush 102, 2) := by decide +kernel
theorem dX2_init_621 : decode cX2_init 621 = .ok (.iconst 4, 1) := by decide +kernel
theorem dX2_init_622 : decode cX2_init 622 = .ok (.iastore, 1) := by decide +kernel
theorem dX2_init_623 : decode cX2_init 623 = .ok (.dup, 1) := by decide +kernel
theorem dX2_init_624 : decode cX2_init 624 = .ok (.bipush 103, 2) := by decide +kernel
theorem dX2_init_626 : decode cX2_init 626 = .ok (.bipush 10, 2) := by decide +kernel
theorem dX2_init_628 : decode cX2_init 628 = .ok (.iastore, 1) := by decide +kernel
theorem dX2_init_629 : decode cX2_init 629 = .ok (.dup, 1) := by decide +kernel
theorem dX2_init_630 : decode cX2_init 630 = .ok (.bipush 104, 2) := by decide +kernel
theorem dX2_init_632 : decode cX2_init 632 = .ok (.iconst 0, 1) := by decide +kernel
theorem dX2_init_633 : decode cX2_init 633 = .ok (.iastore, 1) := by decide +kernel
theorem dX2_init_634 : decode cX2_init 634 = .ok (.dup, 1) := by decide +kernel
theorem dX2_init_635 : decode cX2_init 635 = .ok (.bipush 105, 2) := by decide +kernel
theorem dX2_init_637 : decode cX2_init 637 = .ok (.bipush 7, 2) := by decide +kernel
theorem dX2_init_639 : decode cX2_init 639 = .ok (.iastore, 1) := by decide +kernel
theorem dX2_init_640 : decode cX2_init 640 = .ok (.dup, 1) := by decide +kernel
theorem dX2_init_641 : decode cX2_init 641 = .ok (.bipush 106, 2) := by decide +kernel
theorem dX2_init_643 : decode cX2_init 643 = .ok (.bipush 6, 2) := by decide +kernel
theorem dX2_init_645 : decode cX2_init 645 = .ok (.iastore, 1) := by decide +kernel
theorem dX2_init_646 : decode cX2_init 646 = .ok (.dup, 1) := by decide +kernel
theorem dX2_init_647 : decode cX2_init 647 = .ok (.bipush 107, 2) := by decide +kernel
theorem dX2_init_649 : decode cX2_init 649 = .ok (.iconst 3, 1) := by decide +kernel
theorem dX2_init_650 : decode cX2_init 650 = .ok (.iastore, 1) := by decide +kernel
theorem dX2_init_651 : decode cX2_init 651 = .ok (.dup, 1) := by decide +kernel
theorem dX2_init_652 : decode cX2_init 652 = .ok (.bipush 108, 2) := by decide +kernel
theorem dX2_init_654 : decode cX2_init 654 = .ok (.bipush 9, 2) := by decide +kernel
theorem dX2_init_656 : decode cX2_init 656 = .ok (.iastore, 1) := by decide +kernel
theorem dX2_init_657 : decode cX2_init 657 = .ok (.dup, 1) := by decide +kernel
theorem dX2_init_658 : decode cX2_init 658 = .ok (.bipush 109, 2) := by decide +kernel
theorem dX2_init_660 : decode cX2_init 660 = .ok (.iconst 2, 1) := by decide +kernel
theorem dX2_init_661 : decode cX2_init 661 = .ok (.iastore, 1) := by decide +kernel
theorem dX2_init_662 : decode cX2_init 662 = .ok (.dup, 1) := by decide +kernel
theorem dX2_init_663 : decode cX2_init 663 = .ok (.bipush 110, 2) := by decide +kernel
theorem dX2_init_665 : decode cX2_init 665 = .ok (.bipush 8, 2) := by decide +kernel
theorem dX2_init_667 : decode cX2_init 667 = .ok (.iastore, 1) := by decide +kernel
theorem dX2_init_668 : decode cX2_init 668 = .ok (.dup, 1) := by decide +kernel
theorem dX2_init_669 : decode cX2_init 669 = .ok (.bipush 111, 2) := by decide +kernel
theorem dX2_init_671 : decode cX2_init 671 = .ok (.bipush 11, 2) := by decide +kernel
theorem dX2_init_673 : decode cX2_init 673 = .ok (.iastore, 1) := by decide +kernel
theorem dX2_init_674 : decode cX2_init 674 = .ok (.dup, 1) := by decide +kernel
theorem dX2_init_675 : decode cX2_init 675 = .ok (.bipush 112, 2) := by decide +kernel
theorem dX2_init_677 : decode cX2_init 677 = .ok (.bipush 13, 2) := by decide +kernel
theorem dX2_init_679 : decode cX2_init 679 = .ok (.iastore, 1) := by decide +kernel
theorem dX2_init_680 : decode cX2_init 680 = .ok (.dup, 1) := by decide +kernel
theorem dX2_init_681 : decode cX2_init 681 = .ok (.bipush 113, 2) := by decide +kernel
theorem dX2_init_683 : decode cX2_init 683 = .ok (.bipush 11, 2) := by decide +kernel
theorem dX2_init_685 : decode cX2_init 685 = .ok (.iastore, 1) := by decide +kernel
theorem dX2_init_686 : decode cX2_init 686 = .ok (.dup, 1) := by decide +kernel
theorem dX2_init_687 : decode cX2_init 687 = .ok (.bipush 114, 2) := by decide +kernel
theorem dX2_init_689 : decode cX2_init 689 = .ok (.bipush 7, 2) := by decide +kernel
theorem dX2_init_691 : decode cX2_init 691 = .ok (.iastore, 1) := by decide +kernel
theorem dX2_init_692 : decode cX2_init 692 = .ok (.dup, 1) := by decide +kernel
theorem dX2_init_693 : decode cX2_init 693 = .ok (.bipush 115, 2) := by decide +kernel
theorem dX2_init_695 : decode cX2_init 695 = .ok (.bipush 14, 2) := by decide +kernel
theorem dX2_init_697 : decode cX2_init 697 = .ok (.iastore, 1) := by decide +kernel
theorem dX2_init_698 : decode cX2_init 698 = .ok (.dup, 1) := by decide +kernel
theorem dX2_init_699 : decode cX2_init 699 = .ok (.bipush 116, 2) := by decide +kernel
theorem dX2_init_701 : decode cX2_init 701 = .ok (.bipush 12, 2) := by decide +kernel
theorem dX2_init_703 : decode cX2_init 703 = .ok (.iastore, 1) := by decide +kernel
theorem dX2_init_704 : decode cX2_init 704 = .ok (.dup, 1) := by decide +kernel
theorem dX2_init_705 : decode cX2_init 705 = .ok (.bipush 117, 2) := by decide +kernel
theorem dX2_init_707 : decode cX2_init 707 = .ok (.iconst 1, 1) := by decide +kernel
theorem dX2_init_708 : decode cX2_init 708 = .ok (.iastore, 1) := by decide +kernel
theorem dX2_init_709 : decode cX2_init 709 = .ok (.dup, 1) := by decide +kernel
theorem dX2_init_710 : decode cX2_init 710 = .ok (.bipush 118, 2) := by decide +kernel
theorem dX2_init_712 : decode cX2_init 712 = .ok (.iconst 3, 1) := by decide +kernel
theorem dX2_init_713 : decode cX2_init 713 = .ok (.iastore, 1) := by decide +kernel
theorem dX2_init_714 : decode cX2_init 714 = .ok (.dup, 1) := by decide +kernel
theorem dX2_init_715 : decode cX2_init 715 = .ok (.bipush 119, 2) := by decide +kernel
theorem dX2_init_717 : decode cX2_init 717 = .ok (.bipush 9, 2) := by decide +kernel
theorem dX2_init_719 : decode cX2_init 719 = .ok (.iastore, 1) := by decide +kernel
theorem dX2_init_720 : decode cX2_init 720 = .ok (.dup, 1) := by decide +kernel
theorem dX2_init_721 : decode cX2_init 721 = .ok (.bipush 120, 2) := by decide +kernel
theorem dX2_init_723 : decode cX2_init 723 = .ok (.iconst 5, 1) := by decide +kernel
theorem dX2_init_724 : decode cX2_init 724 = .ok (.iastore, 1) := by decide +kernel
theorem dX2_init_725 : decode cX2_init 725 = .ok (.dup, 1) := by decide +kernel
theorem dX2_init_726 : decode cX2_init 726 = .ok (.bipush 121, 2) := by decide +kernel
theorem dX2_init_728 : decode cX2_init 728 = .ok (.iconst 0, 1) := by decide +kernel
theorem dX2_init_729 : decode cX2_init 729 = .ok (.iastore, 1) := by decide +kernel
theorem dX2_init_730 : decode cX2_init 730 = .ok (.dup, 1) := by decide +kernel
theorem dX2_init_731 : decode cX2_init 731 = .ok (.bipush 122, 2) := by decide +kernel
theorem dX2_init_733 : decode cX2_init 733 = .ok (.bipush 15, 2) := by decide +kernel
theorem dX2_init_735 : decode cX2_init 735 = .ok (.iastore, 1) := by decide +kernel
theorem dX2_init_736 : decode cX2_init 736 = .ok (.dup, 1) := by decide +kernel
theorem dX2_init_737 : decode cX2_init 737 = .ok (.bipush 123, 2) := by decide +kernel
theorem dX2_init_739 : decode cX2_init 739 = .ok (.iconst 4, 1) := by decide +kernel
theorem dX2_init_740 : decode cX2_init 740 = .ok (.iastore, 1) := by decide +kernel
theorem dX2_init_741 : decode cX2_init 741 = .ok (.dup, 1) := by decide +kernel
theorem dX2_init_742 : decode cX2_init 742 = .ok (.bipush 124, 2) := by decide +kernel
theorem dX2_init_744 : decode cX2_init 744 = .ok (.bipush 8, 2) := by decide +kernel
theorem dX2_init_746 : decode cX2_init 746 = .ok (.iastore, 1) := by decide +kernel
theorem dX2_init_747 : decode cX2_init 747 = .ok (.dup, 1) := by decide +kernel
theorem dX2_init_748 : decode cX2_init 748 = .ok (.bipush 125, 2) := by decide +kernel
theorem dX2_init_750 : decode cX2_init 750 = .ok (.bipush 6, 2) := by decide +kernel
theorem dX2_init_752 : decode cX2_init 752 = .ok (.iastore, 1) := by decide +kernel
theorem dX2_init_753 : decode cX2_init 753 = .ok (.dup, 1) := by decide +kernel
theorem dX2_init_754 : decode cX2_init 754 = .ok (.bipush 126, 2) := by decide +kernel
theorem dX2_init_756 : decode cX2_init 756 = .ok (.iconst 2, 1) := by decide +kernel
theorem dX2_init_757 : decode cX2_init 757 = .ok (.iastore, 1) := by decide +kernel
theorem dX2_init_758 : decode cX2_init 758 = .ok (.dup, 1) := by decide +kernel
theorem dX2_init_759 : decode cX2_init 759 = .ok (.bipush 127, 2) := by decide +kernel
theorem dX2_init_761 : decode cX2_init 761 = .ok (.bipush 10, 2) := by decide +kernel
theorem dX2_init_763 : decode cX2_init 763 = .ok (.iastore, 1) := by decide +kernel
theorem dX2_init_764 : decode cX2_init 764 = .ok (.dup, 1) := by decide +kernel
theorem dX2_init_765 : decode cX2_init 765 = .ok (.sipush 128, 3) := by decide +kernel
theorem dX2_init_768 : decode cX2_init 768 = .ok (.bipush 6, 2) := by decide +kernel
theorem dX2_init_770 : decode cX2_init 770 = .ok (.iastore, 1) := by decide +kernel
theorem dX2_init_771 : decode cX2_init 771 = .ok (.dup, 1) := by decide +kernel
theorem dX2_init_772 : decode cX2_init 772 = .ok (.sipush 129, 3) := by decide +kernel
theorem dX2_init_775 : decode cX2_init 775 = .ok (.bipush 15, 2) := by decide +kernel
theorem dX2_init_777 : decode cX2_init 777 = .ok (.iastore, 1) := by decide +kernel
theorem dX2_init_778 : decode cX2_init 778 = .ok (.dup, 1) := by decide +kernel
theorem dX2_init_779 : decode cX2_init 779 = .ok (.sipush 130, 3) := by decide +kernel
theorem dX2_init_782 : decode cX2_init 782 = .ok (.bipush 14, 2) := by decide +kernel
theorem dX2_init_784 : decode cX2_init 784 = .ok (.iastore, 1) := by decide +kernel
theorem dX2_init_785 : decode cX2_init 785 = .ok (.dup, 1) := by decide +kernel
theorem dX2_init_786 : decode cX2_init 786 = .ok (.sipush 131, 3) := by decide +kernel
theorem dX2_init_789 : decode cX2_init 789 = .ok (.bipush 9, 2) := by decide +kernel
theorem dX2_init_791 : decode cX2_init 791 = .ok (.iastore, 1) := by decide +kernel
theorem dX2_init_792 : decode cX2_init 792 = .ok (.dup, 1) := by decide +kernel
theorem dX2_init_793 : decode cX2_init 793 = .ok (.sipush 132, 3) := by decide +kernel
theorem dX2_init_796 : decode cX2_init 796 = .ok (.bipush 11, 2) := by decide +kernel
theorem dX2_init_798 : decode cX2_init 798 = .ok (.iastore, 1) := by decide +kernel
theorem dX2_init_799 : decode cX2_init 799 = .ok (.dup, 1) := by decide +kernel
theorem dX2_init_800 : decode cX2_init 800 = .ok (.sipush 133, 3) := by decide +kernel
theorem dX2_init_803 : decode cX2_init 803 = .ok (.iconst 3, 1) := by decide +kernel
theorem dX2_init_804 : decode cX2_init 804 = .ok (.iastore, 1) := by decide +kernel
theorem dX2_init_805 : decode cX2_init 805 = .ok (.dup, 1) := by decide +kernel
theorem dX2_init_806 : decode cX2_init 806 = .ok (.sipush 134, 3) := by decide +kernel
theorem dX2_init_809 : decode cX2_init 809 = .ok (.iconst 0, 1) := by decide +kernel
theorem dX2_init_810 : decode cX2_init 810 = .ok (.iastore, 1) := by decide +kernel
theorem dX2_init_811 : decode cX2_init 811 = .ok (.dup, 1) := by decide +kernel
theorem dX2_init_812 : decode cX2_init 812 = .ok (.sipush 135, 3) := by decide +kernel
theorem dX2_init_815 : decode cX2_init 815 = .ok (.bipush 8, 2) := by decide +kernel
theorem dX2_init_817 : decode cX2_init 817 = .ok (.iastore, 1) := by decide +kernel
theorem dX2_init_818 : decode cX2_init 818 = .ok (.dup, 1) := by decide +kernel
theorem dX2_init_819 : decode cX2_init 819 = .ok (.sipush 136, 3) := by decide +kernel
theorem dX2_init_822 : decode cX2_init 822 = .ok (.bipush 12, 2) := by decide +kernel
theorem dX2_init_824 : decode cX2_init 824 = .ok (.iastore, 1) := by decide +kernel
theorem dX2_init_825 : decode cX2_init 825 = .ok (.dup, 1) := by decide +kernel
theorem dX2_init_826 : decode cX2_init 826 = .ok (.sipush 137, 3) := by decide +kernel
theorem dX2_init_829 : decode cX2_init 829 = .ok (.iconst 2, 1) := by decide +kernel
theorem dX2_init_830 : decode cX2_init 830 = .ok (.iastore, 1) := by decide +kernel
theorem dX2_init_831 : decode cX2_init 831 = .ok (.dup, 1) := by decide +kernel
theorem dX2_init_832 : decode cX2_init 832 = .ok (.sipush 138, 3) := by decide +kernel
theorem dX2_init_835 : decode cX2_init 835 = .ok (.bipush 13, 2) := by decide +kernel
theorem dX2_init_837 : decode cX2_init 837 = .ok (.iastore, 1) := by decide +kernel
theorem dX2_init_838 : decode cX2_init 838 = .ok (.dup, 1) := by decide +kernel
theorem dX2_init_839 : decode cX2_init 839 = .ok (.sipush 139, 3) := by decide +kernel
theorem dX2_init_842 : decode cX2_init 842 = .ok (.bipush 7, 2) := by decide +kernel
theorem dX2_init_844 : decode cX2_init 844 = .ok (.iastore, 1) := by decide +kernel
theorem dX2_init_845 : decode cX2_init 845 = .ok (.dup, 1) := by decide +kernel
theorem dX2_init_846 : decode cX2_init 846 = .ok (.sipush 140, 3) := by decide +kernel
theorem dX2_init_849 : decode cX2_init 849 = .ok (.iconst 1, 1) := by decide +kernel
theorem dX2_init_850 : decode cX2_init 850 = .ok (.iastore, 1) := by decide +kernel
theorem dX2_init_851 : decode cX2_init 851 = .ok (.dup, 1) := by decide +kernel
theorem dX2_init_852 : decode cX2_init 852 = .ok (.sipush 141, 3) := by decide +kernel
theorem dX2_init_855 : decode cX2_init 855 = .ok (.iconst 4, 1) := by decide +kernel
theorem dX2_init_856 : decode cX2_init 856 = .ok (.iastore, 1) := by decide +kernel
theorem dX2_init_857 : decode cX2_init 857 = .ok (.dup, 1) := by decide +kernel
theorem dX2_init_858 : decode cX2_init 858 = .ok (.sipush 142, 3) := by decide +kernel
theorem dX2_init_861 : decode cX2_init 861 = .ok (.bipush 10, 2) := by decide +kernel
theorem dX2_init_863 : decode cX2_init 863 = .ok (.iastore, 1) := by decide +kernel
theorem dX2_init_864 : decode cX2_init 864 = .ok (.dup, 1) := by decide +kernel
theorem dX2_init_865 : decode cX2_init 865 = .ok (.sipush 143, 3) := by decide +kernel
theorem dX2_init_868 : decode cX2_init 868 = .ok (.iconst 5, 1) := by decide +kernel
theorem dX2_init_869 : decode cX2_init 869 = .ok (.iastore, 1) := by decide +kernel
theorem dX2_init_870 : decode cX2_init 870 = .ok (.dup, 1) := by decide +kernel
theorem dX2_init_871 : decode cX2_init 871 = .ok (.sipush 144, 3) := by decide +kernel
theorem dX2_init_874 : decode cX2_init 874 = .ok (.bipush 10, 2) := by decide +kernel
theorem dX2_init_876 : decode cX2_init 876 = .ok (.iastore, 1) := by decide +kernel
theorem dX2_init_877 : decode cX2_init 877 = .ok (.dup, 1) := by decide +kernel
theorem dX2_init_878 : decode cX2_init 878 = .ok (.sipush 145, 3) := by decide +kernel
theorem dX2_init_881 : decode cX2_init 881 = .ok (.iconst 2, 1) := by decide +kernel
theorem dX2_init_882 : decode cX2_init 882 = .ok (.iastore, 1) := by decide +kernel
theorem dX2_init_883 : decode cX2_init 883 = .ok (.dup, 1) := by decide +kernel
theorem dX2_init_884 : decode cX2_init 884 = .ok (.sipush 146, 3) := by decide +kernel
theorem dX2_init_887 : decode cX2_init 887 = .ok (.bipush 8, 2) := by decide +kernel
theorem dX2_init_889 : decode cX2_init 889 = .ok (.iastore, 1) := by decide +kernel
theorem dX2_init_890 : decode cX2_init 890 = .ok (.dup, 1) := by decide +kernel
theorem dX2_init_891 : decode cX2_init 891 = .ok (.sipush 147, 3) := by decide +kernel
theorem dX2_init_894 : decode cX2_init 894 = .ok (.iconst 4, 1) := by decide +kernel
theorem dX2_init_895 : decode cX2_init 895 = .ok (.iastore, 1) := by decide +kernel
theorem dX2_init_896 : decode cX2_init 896 = .ok (.dup, 1) := by decide +kernel
theorem dX2_init_897 : decode cX2_init 897 = .ok (.sipush 148, 3) := by decide +kernel
theorem dX2_init_900 : decode cX2_init 900 = .ok (.bipush 7, 2) := by decide +kernel
theorem dX2_init_902 : decode cX2_init 902 = .ok (.iastore, 1) := by decide +kernel
theorem dX2_init_903 : decode cX2_init 903 = .ok (.dup, 1) := by decide +kernel
theorem dX2_init_904 : decode cX2_init 904 = .ok (.sipush 149, 3) := by decide +kernel
theorem dX2_init_907 : decode cX2_init 907 = .ok (.bipush 6, 2) := by decide +kernel
theorem dX2_init_909 : decode cX2_init 909 = .ok (.iastore, 1) := by decide +kernel
theorem dX2_init_910 : decode cX2_init 910 = .ok (.dup, 1) := by decide +kernel
theorem dX2_init_911 : decode cX2_init 911 = .ok (.sipush 150, 3) := by decide +kernel
theorem dX2_init_914 : decode cX2_init 914 = .ok (.iconst 1, 1) := by decide +kernel
theorem dX2_init_915 : decode cX2_init 915 = .ok (.iastore, 1) := by decide +kernel
theorem dX2_init_916 : decode cX2_init 916 = .ok (.dup, 1) := by decide +kernel
theorem dX2_init_917 : decode cX2_init 917 = .ok (.sipush 151, 3) := by decide +kernel
theorem dX2_init_920 : decode cX2_init 920 = .ok (.iconst 5, 1) := by decide +kernel
theorem dX2_init_921 : decode cX2_init 921 = .ok (.iastore, 1) := by decide +kernel
theorem dX2_init_922 : decode cX2_init 922 = .ok (.dup, 1) := by decide +kernel
theorem dX2_init_923 : decode cX2_init 923 = .ok (.sipush 152, 3) := by decide +kernel
theorem dX2_init_926 : decode cX2_init 926 = .ok (.bipush 15, 2) := by decide +kernel
theorem dX2_init_928 : decode cX2_init 928 = .ok (.iastore, 1) := by decide +kernel
theorem dX2_init_929 : decode cX2_init 929 = .ok (.dup, 1) := by decide +kernel
theorem dX2_init_930 : decode cX2_init 930 = .ok (.sipush 153, 3) := by decide +kernel
theorem dX2_init_933 : decode cX2_init 933 = .ok (.bipush 11, 2) := by decide +kernel
theorem dX2_init_935 : decode cX2_init 935 = .ok (.iastore, 1) := by decide +kernel
theorem dX2_init_936 : decode cX2_init 936 = .ok (.dup, 1) := by decide +kernel
theorem dX2_init_937 : decode cX2_init 937 = .ok (.sipush 154, 3) := by decide +kernel
theorem dX2_init_940 : decode cX2_init 940 = .ok (.bipush 9, 2) := by decide +kernel
theorem dX2_init_942 : decode cX2_init 942 = .ok (.iastore, 1) := by decide +kernel
theorem dX2_init_943 : decode cX2_init 943 = .ok (.dup, 1) := by decide +kernel
theorem dX2_init_944 : decode cX2_init 944 = .ok (.sipush 155, 3) := by decide +kernel
theorem dX2_init_947 : decode cX2_init 947 = .ok (.bipush 14, 2) := by decide +kernel
theorem dX2_init_949 : decode cX2_init 949 = .ok (.iastore, 1) := by decide +kernel
theorem dX2_init_950 : decode cX2_init 950 = .ok (.dup, 1) := by decide +kernel
theorem dX2_init_951 : decode cX2_init 951 = .ok (.sipush 156, 3) := by decide +kernel
theorem dX2_init_954 : decode cX2_init 954 = .ok (.iconst 3, 1) := by decide +kernel
theorem dX2_init_955 : decode cX2_init 955 = .ok (.iastore, 1) := by decide +kernel
theorem dX2_init_956 : decode cX2_init 956 = .ok (.dup, 1) := by decide +kernel
theorem dX2_init_957 : decode cX2_init 957 = .ok (.sipush 157, 3) := by decide +kernel
theorem dX2_init_960 : decode cX2_init 960 = .ok (.bipush 12, 2) := by decide +kernel
theorem dX2_init_962 : decode cX2_init 962 = .ok (.iastore, 1) := by decide +kernel
theorem dX2_init_963 : decode cX2_init 963 = .ok (.dup, 1) := by decide +kernel
theorem dX2_init_964 : decode cX2_init 964 = .ok (.sipush 158, 3) := by decide +kernel
theorem dX2_init_967 : decode cX2_init 967 = .ok (.bipush 13, 2) := by decide +kernel
theorem dX2_init_969 : decode cX2_init 969 = .ok (.iastore, 1) := by decide +kernel
theorem dX2_init_970 : decode cX2_init 970 = .ok (.dup, 1) := by decide +kernel
theorem dX2_init_971 : decode cX2_init 971 = .ok (.sipush 159, 3) := by decide +kernel
theorem dX2_init_974 : decode cX2_init 974 = .ok (.iconst 0, 1) := by decide +kernel
theorem dX2_init_975 : decode cX2_init 975 = .ok (.iastore, 1) := by decide +kernel
theorem dX2_init_976 : decode cX2_init 976 = .ok (.putfield 25, 3) := by decide +kernel
theorem dX2_init_979 : decode cX2_init 979 = .ok (.aload_n 0, 1) := by decide +kernel
theorem dX2_init_980 : decode cX2_init 980 = .ok (.iconst 0, 1) := by decide +kernel
theorem dX2_init_981 : decode cX2_init 981 = .ok (.putfield 28, 3) := by decide +kernel
theorem dX2_init_984 : decode cX2_init 984 = .ok (.return_, 1) := by decide +kernel
