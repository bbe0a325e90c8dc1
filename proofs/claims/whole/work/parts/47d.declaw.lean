theorem dW_573 : decode code 573 = .ok (.invokevirtual 89, 3) := by decide +kernel
theorem dW_576 : decode code 576 = .ok (.istore 6, 2) := by decide +kernel
theorem dW_578 : decode code 578 = .ok (.aload_n 2, 1) := by decide +kernel
theorem dW_579 : decode code 579 = .ok (.invokevirtual 63, 3) := by decide +kernel
theorem dW_582 : decode code 582 = .ok (.iload 5, 2) := by decide +kernel
theorem dW_584 : decode code 584 = .ok (.if_icmp .eq 5, 3) := by decide +kernel
theorem dW_587 : decode code 587 = .ok (.iconst 0, 1) := by decide +kernel
theorem dW_588 : decode code 588 = .ok (.ireturn, 1) := by decide +kernel
theorem dW_589 : decode code 589 = .ok (.iload 5, 2) := by decide +kernel
theorem dW_591 : decode code 591 = .ok (.ifCond .ne 15, 3) := by decide +kernel
theorem dW_594 : decode code 594 = .ok (.aload_n 3, 1) := by decide +kernel
theorem dW_595 : decode code 595 = .ok (.iconst 0, 1) := by decide +kernel
theorem dW_596 : decode code 596 = .ok (.laload, 1) := by decide +kernel
theorem dW_597 : decode code 597 = .ok (.iload 6, 2) := by decide +kernel
theorem dW_599 : decode code 599 = .ok (.i2l, 1) := by decide +kernel
theorem dW_600 : decode code 600 = .ok (.lcmp, 1) := by decide +kernel
theorem dW_601 : decode code 601 = .ok (.ifCond .eq 5, 3) := by decide +kernel
theorem dW_604 : decode code 604 = .ok (.iconst 0, 1) := by decide +kernel
theorem dW_605 : decode code 605 = .ok (.ireturn, 1) := by decide +kernel
theorem dW_606 : decode code 606 = .ok (.goto 445, 3) := by decide +kernel
theorem dW_609 : decode code 609 = .ok (.aload_n 1, 1) := by decide +kernel
theorem dW_610 : decode code 610 = .ok (.aload_n 0, 1) := by decide +kernel
theorem dW_611 : decode code 611 = .ok (.iload 4, 2) := by decide +kernel
theorem dW_613 : decode code 613 = .ok (.iconst 1, 1) := by decide +kernel
theorem dW_614 : decode code 614 = .ok (.iadd, 1) := by decide +kernel
theorem dW_615 : decode code 615 = .ok (.iaload, 1) := by decide +kernel
theorem dW_616 : decode code 616 = .ok (.aload_n 0, 1) := by decide +kernel
theorem dW_617 : decode code 617 = .ok (.iload 4, 2) := by decide +kernel
theorem dW_619 : decode code 619 = .ok (.iconst 2, 1) := by decide +kernel
theorem dW_620 : decode code 620 = .ok (.iadd, 1) := by decide +kernel
theorem dW_621 : decode code 621 = .ok (.iaload, 1) := by decide +kernel
theorem dW_622 : decode code 622 = .ok (.aload_n 3, 1) := by decide +kernel
theorem dW_623 : decode code 623 = .ok (.invokestatic 90, 3) := by decide +kernel
theorem dW_626 : decode code 626 = .ok (.istore 5, 2) := by decide +kernel
theorem dW_628 : decode code 628 = .ok (.aload_n 2, 1) := by decide +kernel
theorem dW_629 : decode code 629 = .ok (.aload_n 0, 1) := by decide +kernel
theorem dW_630 : decode code 630 = .ok (.iload 4, 2) := by decide +kernel
theorem dW_632 : decode code 632 = .ok (.iconst 1, 1) := by decide +kernel
theorem dW_633 : decode code 633 = .ok (.iadd, 1) := by decide +kernel
theorem dW_634 : decode code 634 = .ok (.iaload, 1) := by decide +kernel
theorem dW_635 : decode code 635 = .ok (.aload_n 0, 1) := by decide +kernel
theorem dW_636 : decode code 636 = .ok (.iload 4, 2) := by decide +kernel
theorem dW_638 : decode code 638 = .ok (.iconst 2, 1) := by decide +kernel
theorem dW_639 : decode code 639 = .ok (.iadd, 1) := by decide +kernel
theorem dW_640 : decode code 640 = .ok (.iaload, 1) := by decide +kernel
theorem dW_641 : decode code 641 = .ok (.invokevirtual 92, 3) := by decide +kernel
theorem dW_644 : decode code 644 = .ok (.istore 6, 2) := by decide +kernel
theorem dW_646 : decode code 646 = .ok (.aload_n 2, 1) := by decide +kernel
theorem dW_647 : decode code 647 = .ok (.invokevirtual 63, 3) := by decide +kernel
theorem dW_650 : decode code 650 = .ok (.iload 5, 2) := by decide +kernel
theorem dW_652 : decode code 652 = .ok (.if_icmp .eq 5, 3) := by decide +kernel
theorem dW_655 : decode code 655 = .ok (.iconst 0, 1) := by decide +kernel
theorem dW_656 : decode code 656 = .ok (.ireturn, 1) := by decide +kernel
theorem dW_657 : decode code 657 = .ok (.iload 5, 2) := by decide +kernel
theorem dW_659 : decode code 659 = .ok (.ifCond .ne 15, 3) := by decide +kernel
theorem dW_662 : decode code 662 = .ok (.aload_n 3, 1) := by decide +kernel
theorem dW_663 : decode code 663 = .ok (.iconst 0, 1) := by decide +kernel
theorem dW_664 : decode code 664 = .ok (.laload, 1) := by decide +kernel
theorem dW_665 : decode code 665 = .ok (.iload 6, 2) := by decide +kernel
theorem dW_667 : decode code 667 = .ok (.i2l, 1) := by decide +kernel
theorem dW_668 : decode code 668 = .ok (.lcmp, 1) := by decide +kernel
theorem dW_669 : decode code 669 = .ok (.ifCond .eq 5, 3) := by decide +kernel
theorem dW_672 : decode code 672 = .ok (.iconst 0, 1) := by decide +kernel
theorem dW_673 : decode code 673 = .ok (.ireturn, 1) := by decide +kernel
theorem dW_674 : decode code 674 = .ok (.goto 377, 3) := by decide +kernel
theorem dW_677 : decode code 677 = .ok (.aload_n 1, 1) := by decide +kernel
theorem dW_678 : decode code 678 = .ok (.aload_n 0, 1) := by decide +kernel
theorem dW_679 : decode code 679 = .ok (.iload 4, 2) := by decide +kernel
theorem dW_681 : decode code 681 = .ok (.iconst 1, 1) := by decide +kernel
theorem dW_682 : decode code 682 = .ok (.iadd, 1) := by decide +kernel
theorem dW_683 : decode code 683 = .ok (.iaload, 1) := by decide +kernel
theorem dW_684 : decode code 684 = .ok (.aload_n 0, 1) := by decide +kernel
theorem dW_685 : decode code 685 = .ok (.iload 4, 2) := by decide +kernel
theorem dW_687 : decode code 687 = .ok (.iconst 2, 1) := by decide +kernel
theorem dW_688 : decode code 688 = .ok (.iadd, 1) := by decide +kernel
theorem dW_689 : decode code 689 = .ok (.iaload, 1) := by decide +kernel
theorem dW_690 : decode code 690 = .ok (.aload_n 3, 1) := by decide +kernel
theorem dW_691 : decode code 691 = .ok (.invokestatic 93, 3) := by decide +kernel
theorem dW_694 : decode code 694 = .ok (.istore 5, 2) := by decide +kernel
theorem dW_696 : decode code 696 = .ok (.aload_n 2, 1) := by decide +kernel
theorem dW_697 : decode code 697 = .ok (.aload_n 0, 1) := by decide +kernel
theorem dW_698 : decode code 698 = .ok (.iload 4, 2) := by decide +kernel
theorem dW_700 : decode code 700 = .ok (.iconst 1, 1) := by decide +kernel
theorem dW_701 : decode code 701 = .ok (.iadd, 1) := by decide +kernel
theorem dW_702 : decode code 702 = .ok (.iaload, 1) := by decide +kernel
theorem dW_703 : decode code 703 = .ok (.aload_n 0, 1) := by decide +kernel
theorem dW_704 : decode code 704 = .ok (.iload 4, 2) := by decide +kernel
theorem dW_706 : decode code 706 = .ok (.iconst 2, 1) := by decide +kernel
theorem dW_707 : decode code 707 = .ok (.iadd, 1) := by decide +kernel
theorem dW_708 : decode code 708 = .ok (.iaload, 1) := by decide +kernel
theorem dW_709 : decode code 709 = .ok (.invokevirtual 95, 3) := by decide +kernel
theorem dW_712 : decode code 712 = .ok (.istore 6, 2) := by decide +kernel
theorem dW_714 : decode code 714 = .ok (.aload_n 2, 1) := by decide +kernel
theorem dW_715 : decode code 715 = .ok (.invokevirtual 63, 3) := by decide +kernel
theorem dW_718 : decode code 718 = .ok (.iload 5, 2) := by decide +kernel
theorem dW_720 : decode code 720 = .ok (.if_icmp .eq 5, 3) := by decide +kernel
theorem dW_723 : decode code 723 = .ok (.iconst 0, 1) := by decide +kernel
theorem dW_724 : decode code 724 = .ok (.ireturn, 1) := by decide +kernel
theorem dW_725 : decode code 725 = .ok (.iload 5, 2) := by decide +kernel
theorem dW_727 : decode code 727 = .ok (.ifCond .ne 15, 3) := by decide +kernel
theorem dW_730 : decode code 730 = .ok (.aload_n 3, 1) := by decide +kernel
theorem dW_731 : decode code 731 = .ok (.iconst 0, 1) := by decide +kernel
theorem dW_732 : decode code 732 = .ok (.laload, 1) := by decide +kernel
theorem dW_733 : decode code 733 = .ok (.iload 6, 2) := by decide +kernel
theorem dW_735 : decode code 735 = .ok (.i2l, 1) := by decide +kernel
theorem dW_736 : decode code 736 = .ok (.lcmp, 1) := by decide +kernel
theorem dW_737 : decode code 737 = .ok (.ifCond .eq 5, 3) := by decide +kernel
theorem dW_740 : decode code 740 = .ok (.iconst 0, 1) := by decide +kernel
theorem dW_741 : decode code 741 = .ok (.ireturn, 1) := by decide +kernel
theorem dW_742 : decode code 742 = .ok (.goto 309, 3) := by decide +kernel
