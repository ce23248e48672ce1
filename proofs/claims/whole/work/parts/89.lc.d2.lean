theorem d_law_416 : decode code 416 = .ok (.aload_n 0, 1) := by decide +kernel
theorem d_law_417 : decode code 417 = .ok (.iload 4, 2) := by decide +kernel
theorem d_law_419 : decode code 419 = .ok (.iconst 1, 1) := by decide +kernel
theorem d_law_420 : decode code 420 = .ok (.iadd, 1) := by decide +kernel
theorem d_law_421 : decode code 421 = .ok (.iaload, 1) := by decide +kernel
theorem d_law_422 : decode code 422 = .ok (.aload_n 0, 1) := by decide +kernel
theorem d_law_423 : decode code 423 = .ok (.iload 4, 2) := by decide +kernel
theorem d_law_425 : decode code 425 = .ok (.iconst 2, 1) := by decide +kernel
theorem d_law_426 : decode code 426 = .ok (.iadd, 1) := by decide +kernel
theorem d_law_427 : decode code 427 = .ok (.iaload, 1) := by decide +kernel
theorem d_law_428 : decode code 428 = .ok (.aload_n 0, 1) := by decide +kernel
theorem d_law_429 : decode code 429 = .ok (.iload 4, 2) := by decide +kernel
theorem d_law_431 : decode code 431 = .ok (.iconst 3, 1) := by decide +kernel
theorem d_law_432 : decode code 432 = .ok (.iadd, 1) := by decide +kernel
theorem d_law_433 : decode code 433 = .ok (.iaload, 1) := by decide +kernel
theorem d_law_434 : decode code 434 = .ok (.aload_n 3, 1) := by decide +kernel
theorem d_law_435 : decode code 435 = .ok (.invokestatic 84, 3) := by decide +kernel
theorem d_law_438 : decode code 438 = .ok (.istore 5, 2) := by decide +kernel
theorem d_law_440 : decode code 440 = .ok (.aload_n 2, 1) := by decide +kernel
theorem d_law_441 : decode code 441 = .ok (.aload_n 0, 1) := by decide +kernel
theorem d_law_442 : decode code 442 = .ok (.iload 4, 2) := by decide +kernel
theorem d_law_444 : decode code 444 = .ok (.iconst 1, 1) := by decide +kernel
theorem d_law_445 : decode code 445 = .ok (.iadd, 1) := by decide +kernel
theorem d_law_446 : decode code 446 = .ok (.iaload, 1) := by decide +kernel
theorem d_law_447 : decode code 447 = .ok (.aload_n 0, 1) := by decide +kernel
theorem d_law_448 : decode code 448 = .ok (.iload 4, 2) := by decide +kernel
theorem d_law_450 : decode code 450 = .ok (.iconst 2, 1) := by decide +kernel
theorem d_law_451 : decode code 451 = .ok (.iadd, 1) := by decide +kernel
theorem d_law_452 : decode code 452 = .ok (.iaload, 1) := by decide +kernel
theorem d_law_453 : decode code 453 = .ok (.aload_n 0, 1) := by decide +kernel
theorem d_law_454 : decode code 454 = .ok (.iload 4, 2) := by decide +kernel
theorem d_law_456 : decode code 456 = .ok (.iconst 3, 1) := by decide +kernel
theorem d_law_457 : decode code 457 = .ok (.iadd, 1) := by decide +kernel
theorem d_law_458 : decode code 458 = .ok (.iaload, 1) := by decide +kernel
theorem d_law_459 : decode code 459 = .ok (.invokevirtual 86, 3) := by decide +kernel
theorem d_law_462 : decode code 462 = .ok (.istore 6, 2) := by decide +kernel
theorem d_law_464 : decode code 464 = .ok (.aload_n 2, 1) := by decide +kernel
theorem d_law_465 : decode code 465 = .ok (.invokevirtual 69, 3) := by decide +kernel
theorem d_law_468 : decode code 468 = .ok (.iload 5, 2) := by decide +kernel
theorem d_law_470 : decode code 470 = .ok (.if_icmp .eq 5, 3) := by decide +kernel
theorem d_law_473 : decode code 473 = .ok (.iconst 0, 1) := by decide +kernel
theorem d_law_474 : decode code 474 = .ok (.ireturn, 1) := by decide +kernel
theorem d_law_475 : decode code 475 = .ok (.iload 5, 2) := by decide +kernel
theorem d_law_477 : decode code 477 = .ok (.ifCond .ne 15, 3) := by decide +kernel
theorem d_law_480 : decode code 480 = .ok (.aload_n 3, 1) := by decide +kernel
theorem d_law_481 : decode code 481 = .ok (.iconst 0, 1) := by decide +kernel
theorem d_law_482 : decode code 482 = .ok (.laload, 1) := by decide +kernel
theorem d_law_483 : decode code 483 = .ok (.iload 6, 2) := by decide +kernel
theorem d_law_485 : decode code 485 = .ok (.i2l, 1) := by decide +kernel
theorem d_law_486 : decode code 486 = .ok (.lcmp, 1) := by decide +kernel
theorem d_law_487 : decode code 487 = .ok (.ifCond .eq 5, 3) := by decide +kernel
theorem d_law_490 : decode code 490 = .ok (.iconst 0, 1) := by decide +kernel
theorem d_law_491 : decode code 491 = .ok (.ireturn, 1) := by decide +kernel
theorem d_law_492 : decode code 492 = .ok (.goto 630, 3) := by decide +kernel
theorem d_law_495 : decode code 495 = .ok (.aload_n 1, 1) := by decide +kernel
theorem d_law_496 : decode code 496 = .ok (.aload_n 0, 1) := by decide +kernel
theorem d_law_497 : decode code 497 = .ok (.iload 4, 2) := by decide +kernel
theorem d_law_499 : decode code 499 = .ok (.iconst 1, 1) := by decide +kernel
theorem d_law_500 : decode code 500 = .ok (.iadd, 1) := by decide +kernel
theorem d_law_501 : decode code 501 = .ok (.iaload, 1) := by decide +kernel
theorem d_law_502 : decode code 502 = .ok (.aload_n 0, 1) := by decide +kernel
theorem d_law_503 : decode code 503 = .ok (.iload 4, 2) := by decide +kernel
theorem d_law_505 : decode code 505 = .ok (.iconst 2, 1) := by decide +kernel
theorem d_law_506 : decode code 506 = .ok (.iadd, 1) := by decide +kernel
theorem d_law_507 : decode code 507 = .ok (.iaload, 1) := by decide +kernel
theorem d_law_508 : decode code 508 = .ok (.aload_n 0, 1) := by decide +kernel
theorem d_law_509 : decode code 509 = .ok (.iload 4, 2) := by decide +kernel
theorem d_law_511 : decode code 511 = .ok (.iconst 3, 1) := by decide +kernel
theorem d_law_512 : decode code 512 = .ok (.iadd, 1) := by decide +kernel
theorem d_law_513 : decode code 513 = .ok (.iaload, 1) := by decide +kernel
theorem d_law_514 : decode code 514 = .ok (.aload_n 0, 1) := by decide +kernel
theorem d_law_515 : decode code 515 = .ok (.iload 4, 2) := by decide +kernel
theorem d_law_517 : decode code 517 = .ok (.iconst 4, 1) := by decide +kernel
theorem d_law_518 : decode code 518 = .ok (.iadd, 1) := by decide +kernel
theorem d_law_519 : decode code 519 = .ok (.iaload, 1) := by decide +kernel
theorem d_law_520 : decode code 520 = .ok (.aload_n 3, 1) := by decide +kernel
theorem d_law_521 : decode code 521 = .ok (.invokestatic 87, 3) := by decide +kernel
theorem d_law_524 : decode code 524 = .ok (.istore 5, 2) := by decide +kernel
theorem d_law_526 : decode code 526 = .ok (.aload_n 2, 1) := by decide +kernel
theorem d_law_527 : decode code 527 = .ok (.aload_n 0, 1) := by decide +kernel
theorem d_law_528 : decode code 528 = .ok (.iload 4, 2) := by decide +kernel
theorem d_law_530 : decode code 530 = .ok (.iconst 1, 1) := by decide +kernel
theorem d_law_531 : decode code 531 = .ok (.iadd, 1) := by decide +kernel
theorem d_law_532 : decode code 532 = .ok (.iaload, 1) := by decide +kernel
theorem d_law_533 : decode code 533 = .ok (.aload_n 0, 1) := by decide +kernel
theorem d_law_534 : decode code 534 = .ok (.iload 4, 2) := by decide +kernel
theorem d_law_536 : decode code 536 = .ok (.iconst 2, 1) := by decide +kernel
theorem d_law_537 : decode code 537 = .ok (.iadd, 1) := by decide +kernel
theorem d_law_538 : decode code 538 = .ok (.iaload, 1) := by decide +kernel
theorem d_law_539 : decode code 539 = .ok (.aload_n 0, 1) := by decide +kernel
theorem d_law_540 : decode code 540 = .ok (.iload 4, 2) := by decide +kernel
theorem d_law_542 : decode code 542 = .ok (.iconst 3, 1) := by decide +kernel
theorem d_law_543 : decode code 543 = .ok (.iadd, 1) := by decide +kernel
theorem d_law_544 : decode code 544 = .ok (.iaload, 1) := by decide +kernel
theorem d_law_545 : decode code 545 = .ok (.aload_n 0, 1) := by decide +kernel
theorem d_law_546 : decode code 546 = .ok (.iload 4, 2) := by decide +kernel
theorem d_law_548 : decode code 548 = .ok (.iconst 4, 1) := by decide +kernel
theorem d_law_549 : decode code 549 = .ok (.iadd, 1) := by decide +kernel
theorem d_law_550 : decode code 550 = .ok (.iaload, 1) := by decide +kernel
theorem d_law_551 : decode code 551 = .ok (.invokevirtual 90, 3) := by decide +kernel
theorem d_law_554 : decode code 554 = .ok (.istore 6, 2) := by decide +kernel
theorem d_law_556 : decode code 556 = .ok (.aload_n 2, 1) := by decide +kernel
theorem d_law_557 : decode code 557 = .ok (.invokevirtual 69, 3) := by decide +kernel
theorem d_law_560 : decode code 560 = .ok (.iload 5, 2) := by decide +kernel
theorem d_law_562 : decode code 562 = .ok (.if_icmp .eq 5, 3) := by decide +kernel
theorem d_law_565 : decode code 565 = .ok (.iconst 0, 1) := by decide +kernel
theorem d_law_566 : decode code 566 = .ok (.ireturn, 1) := by decide +kernel
theorem d_law_567 : decode code 567 = .ok (.iload 5, 2) := by decide +kernel
theorem d_law_569 : decode code 569 = .ok (.ifCond .ne 15, 3) := by decide +kernel
theorem d_law_572 : decode code 572 = .ok (.aload_n 3, 1) := by decide +kernel
theorem d_law_573 : decode code 573 = .ok (.iconst 0, 1) := by decide +kernel
theorem d_law_574 : decode code 574 = .ok (.laload, 1) := by decide +kernel
theorem d_law_575 : decode code 575 = .ok (.iload 6, 2) := by decide +kernel
theorem d_law_577 : decode code 577 = .ok (.i2l, 1) := by decide +kernel
theorem d_law_578 : decode code 578 = .ok (.lcmp, 1) := by decide +kernel
theorem d_law_579 : decode code 579 = .ok (.ifCond .eq 5, 3) := by decide +kernel
theorem d_law_582 : decode code 582 = .ok (.iconst 0, 1) := by decide +kernel
theorem d_law_583 : decode code 583 = .ok (.ireturn, 1) := by decide +kernel
theorem d_law_584 : decode code 584 = .ok (.goto 538, 3) := by decide +kernel
theorem d_law_587 : decode code 587 = .ok (.aload_n 1, 1) := by decide +kernel
theorem d_law_588 : decode code 588 = .ok (.aload_n 0, 1) := by decide +kernel
theorem d_law_589 : decode code 589 = .ok (.iload 4, 2) := by decide +kernel
theorem d_law_591 : decode code 591 = .ok (.iconst 1, 1) := by decide +kernel
theorem d_law_592 : decode code 592 = .ok (.iadd, 1) := by decide +kernel
theorem d_law_593 : decode code 593 = .ok (.iaload, 1) := by decide +kernel
theorem d_law_594 : decode code 594 = .ok (.aload_n 0, 1) := by decide +kernel
theorem d_law_595 : decode code 595 = .ok (.iload 4, 2) := by decide +kernel
theorem d_law_597 : decode code 597 = .ok (.iconst 2, 1) := by decide +kernel
theorem d_law_598 : decode code 598 = .ok (.iadd, 1) := by decide +kernel
theorem d_law_599 : decode code 599 = .ok (.iaload, 1) := by decide +kernel
theorem d_law_600 : decode code 600 = .ok (.aload_n 0, 1) := by decide +kernel
theorem d_law_601 : decode code 601 = .ok (.iload 4, 2) := by decide +kernel
theorem d_law_603 : decode code 603 = .ok (.iconst 3, 1) := by decide +kernel
theorem d_law_604 : decode code 604 = .ok (.iadd, 1) := by decide +kernel
theorem d_law_605 : decode code 605 = .ok (.iaload, 1) := by decide +kernel
theorem d_law_606 : decode code 606 = .ok (.invokevirtual 91, 3) := by decide +kernel
theorem d_law_609 : decode code 609 = .ok (.aload_n 2, 1) := by decide +kernel
theorem d_law_610 : decode code 610 = .ok (.aload_n 0, 1) := by decide +kernel
theorem d_law_611 : decode code 611 = .ok (.iload 4, 2) := by decide +kernel
theorem d_law_613 : decode code 613 = .ok (.iconst 1, 1) := by decide +kernel
theorem d_law_614 : decode code 614 = .ok (.iadd, 1) := by decide +kernel
theorem d_law_615 : decode code 615 = .ok (.iaload, 1) := by decide +kernel
theorem d_law_616 : decode code 616 = .ok (.aload_n 0, 1) := by decide +kernel
theorem d_law_617 : decode code 617 = .ok (.iload 4, 2) := by decide +kernel
theorem d_law_619 : decode code 619 = .ok (.iconst 2, 1) := by decide +kernel
theorem d_law_620 : decode code 620 = .ok (.iadd, 1) := by decide +kernel
theorem d_law_621 : decode code 621 = .ok (.iaload, 1) := by decide +kernel
theorem d_law_622 : decode code 622 = .ok (.aload_n 0, 1) := by decide +kernel
theorem d_law_623 : decode code 623 = .ok (.iload 4, 2) := by decide +kernel
theorem d_law_625 : decode code 625 = .ok (.iconst 3, 1) := by decide +kernel
theorem d_law_626 : decode code 626 = .ok (.iadd, 1) := by decide +kernel
theorem d_law_627 : decode code 627 = .ok (.iaload, 1) := by decide +kernel
theorem d_law_628 : decode code 628 = .ok (.invokevirtual 94, 3) := by decide +kernel
theorem d_law_631 : decode code 631 = .ok (.if_icmp .eq 491, 3) := by decide +kernel
theorem d_law_634 : decode code 634 = .ok (.iconst 0, 1) := by decide +kernel
theorem d_law_635 : decode code 635 = .ok (.ireturn, 1) := by decide +kernel
theorem d_law_636 : decode code 636 = .ok (.aload_n 1, 1) := by decide +kernel
theorem d_law_637 : decode code 637 = .ok (.aload_n 0, 1) := by decide +kernel
theorem d_law_638 : decode code 638 = .ok (.iload 4, 2) := by decide +kernel
theorem d_law_640 : decode code 640 = .ok (.iconst 1, 1) := by decide +kernel
theorem d_law_641 : decode code 641 = .ok (.iadd, 1) := by decide +kernel
theorem d_law_642 : decode code 642 = .ok (.iaload, 1) := by decide +kernel
theorem d_law_643 : decode code 643 = .ok (.aload_n 0, 1) := by decide +kernel
theorem d_law_644 : decode code 644 = .ok (.iload 4, 2) := by decide +kernel
theorem d_law_646 : decode code 646 = .ok (.iconst 2, 1) := by decide +kernel
theorem d_law_647 : decode code 647 = .ok (.iadd, 1) := by decide +kernel
theorem d_law_648 : decode code 648 = .ok (.iaload, 1) := by decide +kernel
theorem d_law_649 : decode code 649 = .ok (.invokevirtual 95, 3) := by decide +kernel
theorem d_law_652 : decode code 652 = .ok (.aload_n 2, 1) := by decide +kernel
theorem d_law_653 : decode code 653 = .ok (.aload_n 0, 1) := by decide +kernel
theorem d_law_654 : decode code 654 = .ok (.iload 4, 2) := by decide +kernel
theorem d_law_656 : decode code 656 = .ok (.iconst 1, 1) := by decide +kernel
theorem d_law_657 : decode code 657 = .ok (.iadd, 1) := by decide +kernel
theorem d_law_658 : decode code 658 = .ok (.iaload, 1) := by decide +kernel
theorem d_law_659 : decode code 659 = .ok (.aload_n 0, 1) := by decide +kernel
theorem d_law_660 : decode code 660 = .ok (.iload 4, 2) := by decide +kernel
theorem d_law_662 : decode code 662 = .ok (.iconst 2, 1) := by decide +kernel
theorem d_law_663 : decode code 663 = .ok (.iadd, 1) := by decide +kernel
theorem d_law_664 : decode code 664 = .ok (.iaload, 1) := by decide +kernel
theorem d_law_665 : decode code 665 = .ok (.invokevirtual 98, 3) := by decide +kernel
theorem d_law_668 : decode code 668 = .ok (.if_icmp .eq 454, 3) := by decide +kernel
theorem d_law_671 : decode code 671 = .ok (.iconst 0, 1) := by decide +kernel
theorem d_law_672 : decode code 672 = .ok (.ireturn, 1) := by decide +kernel
theorem d_law_673 : decode code 673 = .ok (.aload_n 1, 1) := by decide +kernel
theorem d_law_674 : decode code 674 = .ok (.aload_n 0, 1) := by decide +kernel
theorem d_law_675 : decode code 675 = .ok (.iload 4, 2) := by decide +kernel
theorem d_law_677 : decode code 677 = .ok (.iconst 1, 1) := by decide +kernel
theorem d_law_678 : decode code 678 = .ok (.iadd, 1) := by decide +kernel
theorem d_law_679 : decode code 679 = .ok (.iaload, 1) := by decide +kernel
theorem d_law_680 : decode code 680 = .ok (.invokevirtual 99, 3) := by decide +kernel
theorem d_law_683 : decode code 683 = .ok (.aload_n 2, 1) := by decide +kernel
theorem d_law_684 : decode code 684 = .ok (.aload_n 0, 1) := by decide +kernel
theorem d_law_685 : decode code 685 = .ok (.iload 4, 2) := by decide +kernel
theorem d_law_687 : decode code 687 = .ok (.iconst 1, 1) := by decide +kernel
theorem d_law_688 : decode code 688 = .ok (.iadd, 1) := by decide +kernel
theorem d_law_689 : decode code 689 = .ok (.iaload, 1) := by decide +kernel
theorem d_law_690 : decode code 690 = .ok (.invokevirtual 102, 3) := by decide +kernel
theorem d_law_693 : decode code 693 = .ok (.if_icmp .eq 429, 3) := by decide +kernel
theorem d_law_696 : decode code 696 = .ok (.iconst 0, 1) := by decide +kernel
theorem d_law_697 : decode code 697 = .ok (.ireturn, 1) := by decide +kernel
theorem d_law_698 : decode code 698 = .ok (.aload_n 1, 1) := by decide +kernel
theorem d_law_699 : decode code 699 = .ok (.aload_n 0, 1) := by decide +kernel
theorem d_law_700 : decode code 700 = .ok (.iload 4, 2) := by decide +kernel
theorem d_law_702 : decode code 702 = .ok (.iconst 1, 1) := by decide +kernel
theorem d_law_703 : decode code 703 = .ok (.iadd, 1) := by decide +kernel
theorem d_law_704 : decode code 704 = .ok (.iaload, 1) := by decide +kernel
theorem d_law_705 : decode code 705 = .ok (.aload_n 0, 1) := by decide +kernel
theorem d_law_706 : decode code 706 = .ok (.iload 4, 2) := by decide +kernel
theorem d_law_708 : decode code 708 = .ok (.iconst 2, 1) := by decide +kernel
theorem d_law_709 : decode code 709 = .ok (.iadd, 1) := by decide +kernel
theorem d_law_710 : decode code 710 = .ok (.iaload, 1) := by decide +kernel
theorem d_law_711 : decode code 711 = .ok (.aload_n 0, 1) := by decide +kernel
theorem d_law_712 : decode code 712 = .ok (.iload 4, 2) := by decide +kernel
theorem d_law_714 : decode code 714 = .ok (.iconst 3, 1) := by decide +kernel
theorem d_law_715 : decode code 715 = .ok (.iadd, 1) := by decide +kernel
theorem d_law_716 : decode code 716 = .ok (.iaload, 1) := by decide +kernel
theorem d_law_717 : decode code 717 = .ok (.ifCond .eq 7, 3) := by decide +kernel
theorem d_law_720 : decode code 720 = .ok (.iconst 1, 1) := by decide +kernel
theorem d_law_721 : decode code 721 = .ok (.goto 4, 3) := by decide +kernel
theorem d_law_724 : decode code 724 = .ok (.iconst 0, 1) := by decide +kernel
theorem d_law_725 : decode code 725 = .ok (.aload_n 3, 1) := by decide +kernel
theorem d_law_726 : decode code 726 = .ok (.invokestatic 103, 3) := by decide +kernel
theorem d_law_729 : decode code 729 = .ok (.istore 5, 2) := by decide +kernel
theorem d_law_731 : decode code 731 = .ok (.aload_n 2, 1) := by decide +kernel
theorem d_law_732 : decode code 732 = .ok (.aload_n 0, 1) := by decide +kernel
theorem d_law_733 : decode code 733 = .ok (.iload 4, 2) := by decide +kernel
theorem d_law_735 : decode code 735 = .ok (.iconst 1, 1) := by decide +kernel
theorem d_law_736 : decode code 736 = .ok (.iadd, 1) := by decide +kernel
theorem d_law_737 : decode code 737 = .ok (.iaload, 1) := by decide +kernel
theorem d_law_738 : decode code 738 = .ok (.aload_n 0, 1) := by decide +kernel
theorem d_law_739 : decode code 739 = .ok (.iload 4, 2) := by decide +kernel
theorem d_law_741 : decode code 741 = .ok (.iconst 2, 1) := by decide +kernel
theorem d_law_742 : decode code 742 = .ok (.iadd, 1) := by decide +kernel
theorem d_law_743 : decode code 743 = .ok (.iaload, 1) := by decide +kernel
theorem d_law_744 : decode code 744 = .ok (.aload_n 0, 1) := by decide +kernel
theorem d_law_745 : decode code 745 = .ok (.iload 4, 2) := by decide +kernel
theorem d_law_747 : decode code 747 = .ok (.iconst 3, 1) := by decide +kernel
theorem d_law_748 : decode code 748 = .ok (.iadd, 1) := by decide +kernel
theorem d_law_749 : decode code 749 = .ok (.iaload, 1) := by decide +kernel
theorem d_law_750 : decode code 750 = .ok (.ifCond .eq 7, 3) := by decide +kernel
theorem d_law_753 : decode code 753 = .ok (.iconst 1, 1) := by decide +kernel
theorem d_law_754 : decode code 754 = .ok (.goto 4, 3) := by decide +kernel
theorem d_law_757 : decode code 757 = .ok (.iconst 0, 1) := by decide +kernel
theorem d_law_758 : decode code 758 = .ok (.invokevirtual 106, 3) := by decide +kernel
theorem d_law_761 : decode code 761 = .ok (.istore 6, 2) := by decide +kernel
theorem d_law_763 : decode code 763 = .ok (.aload_n 2, 1) := by decide +kernel
theorem d_law_764 : decode code 764 = .ok (.invokevirtual 69, 3) := by decide +kernel
theorem d_law_767 : decode code 767 = .ok (.iload 5, 2) := by decide +kernel
theorem d_law_769 : decode code 769 = .ok (.if_icmp .eq 5, 3) := by decide +kernel
theorem d_law_772 : decode code 772 = .ok (.iconst 0, 1) := by decide +kernel
theorem d_law_773 : decode code 773 = .ok (.ireturn, 1) := by decide +kernel
theorem d_law_774 : decode code 774 = .ok (.iload 5, 2) := by decide +kernel
theorem d_law_776 : decode code 776 = .ok (.ifCond .ne 15, 3) := by decide +kernel
theorem d_law_779 : decode code 779 = .ok (.aload_n 3, 1) := by decide +kernel
theorem d_law_780 : decode code 780 = .ok (.iconst 0, 1) := by decide +kernel
theorem d_law_781 : decode code 781 = .ok (.laload, 1) := by decide +kernel
theorem d_law_782 : decode code 782 = .ok (.iload 6, 2) := by decide +kernel
theorem d_law_784 : decode code 784 = .ok (.i2l, 1) := by decide +kernel
theorem d_law_785 : decode code 785 = .ok (.lcmp, 1) := by decide +kernel
theorem d_law_786 : decode code 786 = .ok (.ifCond .eq 5, 3) := by decide +kernel
theorem d_law_789 : decode code 789 = .ok (.iconst 0, 1) := by decide +kernel
theorem d_law_790 : decode code 790 = .ok (.ireturn, 1) := by decide +kernel
theorem d_law_791 : decode code 791 = .ok (.goto 331, 3) := by decide +kernel
theorem d_law_794 : decode code 794 = .ok (.aload_n 1, 1) := by decide +kernel
theorem d_law_795 : decode code 795 = .ok (.aload_n 0, 1) := by decide +kernel
theorem d_law_796 : decode code 796 = .ok (.iload 4, 2) := by decide +kernel
theorem d_law_798 : decode code 798 = .ok (.iconst 1, 1) := by decide +kernel
theorem d_law_799 : decode code 799 = .ok (.iadd, 1) := by decide +kernel
theorem d_law_800 : decode code 800 = .ok (.iaload, 1) := by decide +kernel
theorem d_law_801 : decode code 801 = .ok (.invokevirtual 107, 3) := by decide +kernel
theorem d_law_804 : decode code 804 = .ok (.aload_n 2, 1) := by decide +kernel
theorem d_law_805 : decode code 805 = .ok (.aload_n 0, 1) := by decide +kernel
theorem d_law_806 : decode code 806 = .ok (.iload 4, 2) := by decide +kernel
theorem d_law_808 : decode code 808 = .ok (.iconst 1, 1) := by decide +kernel
theorem d_law_809 : decode code 809 = .ok (.iadd, 1) := by decide +kernel
theorem d_law_810 : decode code 810 = .ok (.iaload, 1) := by decide +kernel
theorem d_law_811 : decode code 811 = .ok (.invokevirtual 110, 3) := by decide +kernel
theorem d_law_814 : decode code 814 = .ok (.if_icmp .eq 308, 3) := by decide +kernel
theorem d_law_817 : decode code 817 = .ok (.iconst 0, 1) := by decide +kernel
theorem d_law_818 : decode code 818 = .ok (.ireturn, 1) := by decide +kernel
theorem d_law_819 : decode code 819 = .ok (.aload_n 1, 1) := by decide +kernel
theorem d_law_820 : decode code 820 = .ok (.aload_n 0, 1) := by decide +kernel
theorem d_law_821 : decode code 821 = .ok (.iload 4, 2) := by decide +kernel
theorem d_law_823 : decode code 823 = .ok (.iconst 1, 1) := by decide +kernel
theorem d_law_824 : decode code 824 = .ok (.iadd, 1) := by decide +kernel
theorem d_law_825 : decode code 825 = .ok (.iaload, 1) := by decide +kernel
theorem d_law_826 : decode code 826 = .ok (.aload_n 0, 1) := by decide +kernel
theorem d_law_827 : decode code 827 = .ok (.iload 4, 2) := by decide +kernel
theorem d_law_829 : decode code 829 = .ok (.iconst 2, 1) := by decide +kernel
theorem d_law_830 : decode code 830 = .ok (.iadd, 1) := by decide +kernel
theorem d_law_831 : decode code 831 = .ok (.iaload, 1) := by decide +kernel
theorem d_law_832 : decode code 832 = .ok (.aload_n 3, 1) := by decide +kernel
theorem d_law_833 : decode code 833 = .ok (.invokestatic 111, 3) := by decide +kernel
theorem d_law_836 : decode code 836 = .ok (.istore 5, 2) := by decide +kernel
theorem d_law_838 : decode code 838 = .ok (.aload_n 2, 1) := by decide +kernel
theorem d_law_839 : decode code 839 = .ok (.aload_n 0, 1) := by decide +kernel
theorem d_law_840 : decode code 840 = .ok (.iload 4, 2) := by decide +kernel
theorem d_law_842 : decode code 842 = .ok (.iconst 1, 1) := by decide +kernel
theorem d_law_843 : decode code 843 = .ok (.iadd, 1) := by decide +kernel
theorem d_law_844 : decode code 844 = .ok (.iaload, 1) := by decide +kernel
theorem d_law_845 : decode code 845 = .ok (.aload_n 0, 1) := by decide +kernel
theorem d_law_846 : decode code 846 = .ok (.iload 4, 2) := by decide +kernel
theorem d_law_848 : decode code 848 = .ok (.iconst 2, 1) := by decide +kernel
theorem d_law_849 : decode code 849 = .ok (.iadd, 1) := by decide +kernel
theorem d_law_850 : decode code 850 = .ok (.iaload, 1) := by decide +kernel
theorem d_law_851 : decode code 851 = .ok (.invokevirtual 114, 3) := by decide +kernel
theorem d_law_854 : decode code 854 = .ok (.istore 6, 2) := by decide +kernel
theorem d_law_856 : decode code 856 = .ok (.aload_n 2, 1) := by decide +kernel
theorem d_law_857 : decode code 857 = .ok (.invokevirtual 69, 3) := by decide +kernel
theorem d_law_860 : decode code 860 = .ok (.iload 5, 2) := by decide +kernel
theorem d_law_862 : decode code 862 = .ok (.if_icmp .eq 5, 3) := by decide +kernel
theorem d_law_865 : decode code 865 = .ok (.iconst 0, 1) := by decide +kernel
theorem d_law_866 : decode code 866 = .ok (.ireturn, 1) := by decide +kernel
theorem d_law_867 : decode code 867 = .ok (.iload 5, 2) := by decide +kernel
theorem d_law_869 : decode code 869 = .ok (.ifCond .ne 15, 3) := by decide +kernel
theorem d_law_872 : decode code 872 = .ok (.aload_n 3, 1) := by decide +kernel
theorem d_law_873 : decode code 873 = .ok (.iconst 0, 1) := by decide +kernel
theorem d_law_874 : decode code 874 = .ok (.laload, 1) := by decide +kernel
theorem d_law_875 : decode code 875 = .ok (.iload 6, 2) := by decide +kernel
theorem d_law_877 : decode code 877 = .ok (.i2l, 1) := by decide +kernel
theorem d_law_878 : decode code 878 = .ok (.lcmp, 1) := by decide +kernel
theorem d_law_879 : decode code 879 = .ok (.ifCond .eq 5, 3) := by decide +kernel
theorem d_law_882 : decode code 882 = .ok (.iconst 0, 1) := by decide +kernel
theorem d_law_883 : decode code 883 = .ok (.ireturn, 1) := by decide +kernel
theorem d_law_884 : decode code 884 = .ok (.goto 238, 3) := by decide +kernel
theorem d_law_887 : decode code 887 = .ok (.aload_n 1, 1) := by decide +kernel
theorem d_law_888 : decode code 888 = .ok (.aload_n 0, 1) := by decide +kernel
theorem d_law_889 : decode code 889 = .ok (.iload 4, 2) := by decide +kernel
theorem d_law_891 : decode code 891 = .ok (.iconst 1, 1) := by decide +kernel
theorem d_law_892 : decode code 892 = .ok (.iadd, 1) := by decide +kernel
theorem d_law_893 : decode code 893 = .ok (.iaload, 1) := by decide +kernel
theorem d_law_894 : decode code 894 = .ok (.aload_n 0, 1) := by decide +kernel
theorem d_law_895 : decode code 895 = .ok (.iload 4, 2) := by decide +kernel
theorem d_law_897 : decode code 897 = .ok (.iconst 2, 1) := by decide +kernel
theorem d_law_898 : decode code 898 = .ok (.iadd, 1) := by decide +kernel
theorem d_law_899 : decode code 899 = .ok (.iaload, 1) := by decide +kernel
theorem d_law_900 : decode code 900 = .ok (.aload_n 3, 1) := by decide +kernel
theorem d_law_901 : decode code 901 = .ok (.invokestatic 115, 3) := by decide +kernel
theorem d_law_904 : decode code 904 = .ok (.istore 5, 2) := by decide +kernel
theorem d_law_906 : decode code 906 = .ok (.aload_n 2, 1) := by decide +kernel
theorem d_law_907 : decode code 907 = .ok (.aload_n 0, 1) := by decide +kernel
theorem d_law_908 : decode code 908 = .ok (.iload 4, 2) := by decide +kernel
theorem d_law_910 : decode code 910 = .ok (.iconst 1, 1) := by decide +kernel
theorem d_law_911 : decode code 911 = .ok (.iadd, 1) := by decide +kernel
theorem d_law_912 : decode code 912 = .ok (.iaload, 1) := by decide +kernel
theorem d_law_913 : decode code 913 = .ok (.aload_n 0, 1) := by decide +kernel
theorem d_law_914 : decode code 914 = .ok (.iload 4, 2) := by decide +kernel
theorem d_law_916 : decode code 916 = .ok (.iconst 2, 1) := by decide +kernel
theorem d_law_917 : decode code 917 = .ok (.iadd, 1) := by decide +kernel
theorem d_law_918 : decode code 918 = .ok (.iaload, 1) := by decide +kernel
theorem d_law_919 : decode code 919 = .ok (.invokevirtual 117, 3) := by decide +kernel
theorem d_law_922 : decode code 922 = .ok (.istore 6, 2) := by decide +kernel
theorem d_law_924 : decode code 924 = .ok (.aload_n 2, 1) := by decide +kernel
theorem d_law_925 : decode code 925 = .ok (.invokevirtual 69, 3) := by decide +kernel
theorem d_law_928 : decode code 928 = .ok (.iload 5, 2) := by decide +kernel
theorem d_law_930 : decode code 930 = .ok (.if_icmp .eq 5, 3) := by decide +kernel
theorem d_law_933 : decode code 933 = .ok (.iconst 0, 1) := by decide +kernel
theorem d_law_934 : decode code 934 = .ok (.ireturn, 1) := by decide +kernel
theorem d_law_935 : decode code 935 = .ok (.iload 5, 2) := by decide +kernel
theorem d_law_937 : decode code 937 = .ok (.ifCond .ne 22, 3) := by decide +kernel
theorem d_law_940 : decode code 940 = .ok (.aload_n 3, 1) := by decide +kernel
theorem d_law_941 : decode code 941 = .ok (.iconst 0, 1) := by decide +kernel
theorem d_law_942 : decode code 942 = .ok (.laload, 1) := by decide +kernel
theorem d_law_943 : decode code 943 = .ok (.iload 6, 2) := by decide +kernel
theorem d_law_945 : decode code 945 = .ok (.ifCond .eq 7, 3) := by decide +kernel
theorem d_law_948 : decode code 948 = .ok (.lconst 1, 1) := by decide +kernel
theorem d_law_949 : decode code 949 = .ok (.goto 4, 3) := by decide +kernel
theorem d_law_952 : decode code 952 = .ok (.lconst 0, 1) := by decide +kernel
theorem d_law_953 : decode code 953 = .ok (.lcmp, 1) := by decide +kernel
theorem d_law_954 : decode code 954 = .ok (.ifCond .eq 5, 3) := by decide +kernel
theorem d_law_957 : decode code 957 = .ok (.iconst 0, 1) := by decide +kernel
theorem d_law_958 : decode code 958 = .ok (.ireturn, 1) := by decide +kernel
theorem d_law_959 : decode code 959 = .ok (.goto 163, 3) := by decide +kernel
theorem d_law_962 : decode code 962 = .ok (.aload_n 1, 1) := by decide +kernel
theorem d_law_963 : decode code 963 = .ok (.aload_n 0, 1) := by decide +kernel
theorem d_law_964 : decode code 964 = .ok (.iload 4, 2) := by decide +kernel
theorem d_law_966 : decode code 966 = .ok (.iconst 1, 1) := by decide +kernel
theorem d_law_967 : decode code 967 = .ok (.iadd, 1) := by decide +kernel
theorem d_law_968 : decode code 968 = .ok (.iaload, 1) := by decide +kernel
theorem d_law_969 : decode code 969 = .ok (.aload_n 0, 1) := by decide +kernel
theorem d_law_970 : decode code 970 = .ok (.iload 4, 2) := by decide +kernel
theorem d_law_972 : decode code 972 = .ok (.iconst 2, 1) := by decide +kernel
theorem d_law_973 : decode code 973 = .ok (.iadd, 1) := by decide +kernel
theorem d_law_974 : decode code 974 = .ok (.iaload, 1) := by decide +kernel
theorem d_law_975 : decode code 975 = .ok (.aload_n 3, 1) := by decide +kernel
theorem d_law_976 : decode code 976 = .ok (.invokestatic 118, 3) := by decide +kernel
theorem d_law_979 : decode code 979 = .ok (.istore 5, 2) := by decide +kernel
theorem d_law_981 : decode code 981 = .ok (.aload_n 2, 1) := by decide +kernel
theorem d_law_982 : decode code 982 = .ok (.aload_n 0, 1) := by decide +kernel
theorem d_law_983 : decode code 983 = .ok (.iload 4, 2) := by decide +kernel
theorem d_law_985 : decode code 985 = .ok (.iconst 1, 1) := by decide +kernel
theorem d_law_986 : decode code 986 = .ok (.iadd, 1) := by decide +kernel
theorem d_law_987 : decode code 987 = .ok (.iaload, 1) := by decide +kernel
theorem d_law_988 : decode code 988 = .ok (.aload_n 0, 1) := by decide +kernel
theorem d_law_989 : decode code 989 = .ok (.iload 4, 2) := by decide +kernel
theorem d_law_991 : decode code 991 = .ok (.iconst 2, 1) := by decide +kernel
theorem d_law_992 : decode code 992 = .ok (.iadd, 1) := by decide +kernel
theorem d_law_993 : decode code 993 = .ok (.iaload, 1) := by decide +kernel
theorem d_law_994 : decode code 994 = .ok (.invokevirtual 120, 3) := by decide +kernel
theorem d_law_997 : decode code 997 = .ok (.istore 6, 2) := by decide +kernel
theorem d_law_999 : decode code 999 = .ok (.aload_n 2, 1) := by decide +kernel
theorem d_law_1000 : decode code 1000 = .ok (.invokevirtual 69, 3) := by decide +kernel
theorem d_law_1003 : decode code 1003 = .ok (.iload 5, 2) := by decide +kernel
theorem d_law_1005 : decode code 1005 = .ok (.if_icmp .eq 5, 3) := by decide +kernel
theorem d_law_1008 : decode code 1008 = .ok (.iconst 0, 1) := by decide +kernel
theorem d_law_1009 : decode code 1009 = .ok (.ireturn, 1) := by decide +kernel
theorem d_law_1010 : decode code 1010 = .ok (.iload 5, 2) := by decide +kernel
theorem d_law_1012 : decode code 1012 = .ok (.ifCond .ne 15, 3) := by decide +kernel
theorem d_law_1015 : decode code 1015 = .ok (.aload_n 3, 1) := by decide +kernel
theorem d_law_1016 : decode code 1016 = .ok (.iconst 0, 1) := by decide +kernel
theorem d_law_1017 : decode code 1017 = .ok (.laload, 1) := by decide +kernel
theorem d_law_1018 : decode code 1018 = .ok (.iload 6, 2) := by decide +kernel
theorem d_law_1020 : decode code 1020 = .ok (.i2l, 1) := by decide +kernel
theorem d_law_1021 : decode code 1021 = .ok (.lcmp, 1) := by decide +kernel
theorem d_law_1022 : decode code 1022 = .ok (.ifCond .eq 5, 3) := by decide +kernel
theorem d_law_1025 : decode code 1025 = .ok (.iconst 0, 1) := by decide +kernel
theorem d_law_1026 : decode code 1026 = .ok (.ireturn, 1) := by decide +kernel
theorem d_law_1027 : decode code 1027 = .ok (.goto 95, 3) := by decide +kernel
theorem d_law_1030 : decode code 1030 = .ok (.aload_n 1, 1) := by decide +kernel
theorem d_law_1031 : decode code 1031 = .ok (.aload_n 0, 1) := by decide +kernel
theorem d_law_1032 : decode code 1032 = .ok (.iload 4, 2) := by decide +kernel
theorem d_law_1034 : decode code 1034 = .ok (.iconst 1, 1) := by decide +kernel
theorem d_law_1035 : decode code 1035 = .ok (.iadd, 1) := by decide +kernel
theorem d_law_1036 : decode code 1036 = .ok (.iaload, 1) := by decide +kernel
theorem d_law_1037 : decode code 1037 = .ok (.aload_n 0, 1) := by decide +kernel
theorem d_law_1038 : decode code 1038 = .ok (.iload 4, 2) := by decide +kernel
theorem d_law_1040 : decode code 1040 = .ok (.iconst 2, 1) := by decide +kernel
theorem d_law_1041 : decode code 1041 = .ok (.iadd, 1) := by decide +kernel
theorem d_law_1042 : decode code 1042 = .ok (.iaload, 1) := by decide +kernel
theorem d_law_1043 : decode code 1043 = .ok (.aload_n 0, 1) := by decide +kernel
theorem d_law_1044 : decode code 1044 = .ok (.iload 4, 2) := by decide +kernel
theorem d_law_1046 : decode code 1046 = .ok (.iconst 3, 1) := by decide +kernel
theorem d_law_1047 : decode code 1047 = .ok (.iadd, 1) := by decide +kernel
theorem d_law_1048 : decode code 1048 = .ok (.iaload, 1) := by decide +kernel
theorem d_law_1049 : decode code 1049 = .ok (.aload_n 0, 1) := by decide +kernel
theorem d_law_1050 : decode code 1050 = .ok (.iload 4, 2) := by decide +kernel
theorem d_law_1052 : decode code 1052 = .ok (.iconst 4, 1) := by decide +kernel
theorem d_law_1053 : decode code 1053 = .ok (.iadd, 1) := by decide +kernel
theorem d_law_1054 : decode code 1054 = .ok (.iaload, 1) := by decide +kernel
theorem d_law_1055 : decode code 1055 = .ok (.aload_n 3, 1) := by decide +kernel
theorem d_law_1056 : decode code 1056 = .ok (.invokestatic 121, 3) := by decide +kernel
theorem d_law_1059 : decode code 1059 = .ok (.istore 5, 2) := by decide +kernel
theorem d_law_1061 : decode code 1061 = .ok (.aload_n 2, 1) := by decide +kernel
theorem d_law_1062 : decode code 1062 = .ok (.aload_n 0, 1) := by decide +kernel
theorem d_law_1063 : decode code 1063 = .ok (.iload 4, 2) := by decide +kernel
theorem d_law_1065 : decode code 1065 = .ok (.iconst 1, 1) := by decide +kernel
theorem d_law_1066 : decode code 1066 = .ok (.iadd, 1) := by decide +kernel
theorem d_law_1067 : decode code 1067 = .ok (.iaload, 1) := by decide +kernel
theorem d_law_1068 : decode code 1068 = .ok (.aload_n 0, 1) := by decide +kernel
theorem d_law_1069 : decode code 1069 = .ok (.iload 4, 2) := by decide +kernel
theorem d_law_1071 : decode code 1071 = .ok (.iconst 2, 1) := by decide +kernel
theorem d_law_1072 : decode code 1072 = .ok (.iadd, 1) := by decide +kernel
theorem d_law_1073 : decode code 1073 = .ok (.iaload, 1) := by decide +kernel
theorem d_law_1074 : decode code 1074 = .ok (.aload_n 0, 1) := by decide +kernel
theorem d_law_1075 : decode code 1075 = .ok (.iload 4, 2) := by decide +kernel
theorem d_law_1077 : decode code 1077 = .ok (.iconst 3, 1) := by decide +kernel
theorem d_law_1078 : decode code 1078 = .ok (.iadd, 1) := by decide +kernel
theorem d_law_1079 : decode code 1079 = .ok (.iaload, 1) := by decide +kernel
theorem d_law_1080 : decode code 1080 = .ok (.aload_n 0, 1) := by decide +kernel
theorem d_law_1081 : decode code 1081 = .ok (.iload 4, 2) := by decide +kernel
theorem d_law_1083 : decode code 1083 = .ok (.iconst 4, 1) := by decide +kernel
theorem d_law_1084 : decode code 1084 = .ok (.iadd, 1) := by decide +kernel
theorem d_law_1085 : decode code 1085 = .ok (.iaload, 1) := by decide +kernel
theorem d_law_1086 : decode code 1086 = .ok (.invokevirtual 123, 3) := by decide +kernel
theorem d_law_1089 : decode code 1089 = .ok (.istore 6, 2) := by decide +kernel
theorem d_law_1091 : decode code 1091 = .ok (.aload_n 2, 1) := by decide +kernel
theorem d_law_1092 : decode code 1092 = .ok (.invokevirtual 69, 3) := by decide +kernel
theorem d_law_1095 : decode code 1095 = .ok (.iload 5, 2) := by decide +kernel
theorem d_law_1097 : decode code 1097 = .ok (.if_icmp .eq 5, 3) := by decide +kernel
theorem d_law_1100 : decode code 1100 = .ok (.iconst 0, 1) := by decide +kernel
theorem d_law_1101 : decode code 1101 = .ok (.ireturn, 1) := by decide +kernel
theorem d_law_1102 : decode code 1102 = .ok (.iload 5, 2) := by decide +kernel
theorem d_law_1104 : decode code 1104 = .ok (.ifCond .ne 15, 3) := by decide +kernel
theorem d_law_1107 : decode code 1107 = .ok (.aload_n 3, 1) := by decide +kernel
theorem d_law_1108 : decode code 1108 = .ok (.iconst 0, 1) := by decide +kernel
theorem d_law_1109 : decode code 1109 = .ok (.laload, 1) := by decide +kernel
theorem d_law_1110 : decode code 1110 = .ok (.iload 6, 2) := by decide +kernel
theorem d_law_1112 : decode code 1112 = .ok (.i2l, 1) := by decide +kernel
theorem d_law_1113 : decode code 1113 = .ok (.lcmp, 1) := by decide +kernel
theorem d_law_1114 : decode code 1114 = .ok (.ifCond .eq 5, 3) := by decide +kernel
theorem d_law_1117 : decode code 1117 = .ok (.iconst 0, 1) := by decide +kernel
theorem d_law_1118 : decode code 1118 = .ok (.ireturn, 1) := by decide +kernel
theorem d_law_1119 : decode code 1119 = .ok (.goto 3, 3) := by decide +kernel
theorem d_law_1122 : decode code 1122 = .ok (.iinc 4 5, 3) := by decide +kernel
theorem d_law_1125 : decode code 1125 = .ok (.goto (-1102), 3) := by decide +kernel
theorem d_law_1128 : decode code 1128 = .ok (.iconst 1, 1) := by decide +kernel
theorem d_law_1129 : decode code 1129 = .ok (.ireturn, 1) := by decide +kernel
