theorem dL_law_567 : decode cL_law 567 = .ok (.invokevirtual 116, 3) := by decide +kernel
theorem dL_law_570 : decode cL_law 570 = .ok (.if_icmp .ne 5, 3) := by decide +kernel
theorem dL_law_573 : decode cL_law 573 = .ok (.iconst 0, 1) := by decide +kernel
theorem dL_law_574 : decode cL_law 574 = .ok (.ireturn, 1) := by decide +kernel
theorem dL_law_575 : decode cL_law 575 = .ok (.iinc 18 1, 3) := by decide +kernel
theorem dL_law_578 : decode cL_law 578 = .ok (.goto (-137), 3) := by decide +kernel
theorem dL_law_581 : decode cL_law 581 = .ok (.iload 17, 2) := by decide +kernel
theorem dL_law_583 : decode cL_law 583 = .ok (.ifCond .lt 15, 3) := by decide +kernel
theorem dL_law_586 : decode cL_law 586 = .ok (.aload_n 1, 1) := by decide +kernel
theorem dL_law_587 : decode cL_law 587 = .ok (.iload 17, 2) := by decide +kernel
theorem dL_law_589 : decode cL_law 589 = .ok (.iconst 2, 1) := by decide +kernel
theorem dL_law_590 : decode cL_law 590 = .ok (.invokevirtual 116, 3) := by decide +kernel
theorem dL_law_593 : decode cL_law 593 = .ok (.iload 16, 2) := by decide +kernel
theorem dL_law_595 : decode cL_law 595 = .ok (.if_icmp .gt 27, 3) := by decide +kernel
theorem dL_law_598 : decode cL_law 598 = .ok (.iload 17, 2) := by decide +kernel
theorem dL_law_600 : decode cL_law 600 = .ok (.iconst (-1), 1) := by decide +kernel
theorem dL_law_601 : decode cL_law 601 = .ok (.if_icmp .lt 21, 3) := by decide +kernel
theorem dL_law_604 : decode cL_law 604 = .ok (.iload 17, 2) := by decide +kernel
theorem dL_law_606 : decode cL_law 606 = .ok (.ifCond .eq 16, 3) := by decide +kernel
theorem dL_law_609 : decode cL_law 609 = .ok (.iload 17, 2) := by decide +kernel
theorem dL_law_611 : decode cL_law 611 = .ok (.iconst 1, 1) := by decide +kernel
theorem dL_law_612 : decode cL_law 612 = .ok (.if_icmp .eq 10, 3) := by decide +kernel
theorem dL_law_615 : decode cL_law 615 = .ok (.iload 17, 2) := by decide +kernel
theorem dL_law_617 : decode cL_law 617 = .ok (.bipush 6, 2) := by decide +kernel
theorem dL_law_619 : decode cL_law 619 = .ok (.if_icmp .le 5, 3) := by decide +kernel
theorem dL_law_622 : decode cL_law 622 = .ok (.iconst 0, 1) := by decide +kernel
theorem dL_law_623 : decode cL_law 623 = .ok (.ireturn, 1) := by decide +kernel
theorem dL_law_624 : decode cL_law 624 = .ok (.aload_n 1, 1) := by decide +kernel
theorem dL_law_625 : decode cL_law 625 = .ok (.iconst 4, 1) := by decide +kernel
theorem dL_law_626 : decode cL_law 626 = .ok (.invokevirtual 103, 3) := by decide +kernel
theorem dL_law_629 : decode cL_law 629 = .ok (.ifCond .le 135, 3) := by decide +kernel
theorem dL_law_632 : decode cL_law 632 = .ok (.iconst 0, 1) := by decide +kernel
theorem dL_law_633 : decode cL_law 633 = .ok (.istore 18, 2) := by decide +kernel
theorem dL_law_635 : decode cL_law 635 = .ok (.iconst 0, 1) := by decide +kernel
theorem dL_law_636 : decode cL_law 636 = .ok (.istore 19, 2) := by decide +kernel
theorem dL_law_638 : decode cL_law 638 = .ok (.iconst 0, 1) := by decide +kernel
theorem dL_law_639 : decode cL_law 639 = .ok (.istore 20, 2) := by decide +kernel
theorem dL_law_641 : decode cL_law 641 = .ok (.iload 20, 2) := by decide +kernel
theorem dL_law_643 : decode cL_law 643 = .ok (.bipush 6, 2) := by decide +kernel
theorem dL_law_645 : decode cL_law 645 = .ok (.if_icmp .ge 53, 3) := by decide +kernel
theorem dL_law_648 : decode cL_law 648 = .ok (.iload 18, 2) := by decide +kernel
theorem dL_law_650 : decode cL_law 650 = .ok (.aload_n 1, 1) := by decide +kernel
theorem dL_law_651 : decode cL_law 651 = .ok (.iload 20, 2) := by decide +kernel
theorem dL_law_653 : decode cL_law 653 = .ok (.iconst 1, 1) := by decide +kernel
theorem dL_law_654 : decode cL_law 654 = .ok (.invokevirtual 128, 3) := by decide +kernel
theorem dL_law_657 : decode cL_law 657 = .ok (.iadd, 1) := by decide +kernel
theorem dL_law_658 : decode cL_law 658 = .ok (.istore 18, 2) := by decide +kernel
theorem dL_law_660 : decode cL_law 660 = .ok (.aload_n 1, 1) := by decide +kernel
theorem dL_law_661 : decode cL_law 661 = .ok (.iload 20, 2) := by decide +kernel
theorem dL_law_663 : decode cL_law 663 = .ok (.iconst 0, 1) := by decide +kernel
theorem dL_law_664 : decode cL_law 664 = .ok (.invokevirtual 128, 3) := by decide +kernel
theorem dL_law_667 : decode cL_law 667 = .ok (.ifCond .lt 23, 3) := by decide +kernel
theorem dL_law_670 : decode cL_law 670 = .ok (.aload_n 1, 1) := by decide +kernel
theorem dL_law_671 : decode cL_law 671 = .ok (.iload 20, 2) := by decide +kernel
theorem dL_law_673 : decode cL_law 673 = .ok (.iconst 1, 1) := by decide +kernel
theorem dL_law_674 : decode cL_law 674 = .ok (.invokevirtual 128, 3) := by decide +kernel
theorem dL_law_677 : decode cL_law 677 = .ok (.ifCond .le 15, 3) := by decide +kernel
theorem dL_law_680 : decode cL_law 680 = .ok (.aload_n 1, 1) := by decide +kernel
theorem dL_law_681 : decode cL_law 681 = .ok (.iload 20, 2) := by decide +kernel
theorem dL_law_683 : decode cL_law 683 = .ok (.iconst 2, 1) := by decide +kernel
theorem dL_law_684 : decode cL_law 684 = .ok (.invokevirtual 128, 3) := by decide +kernel
theorem dL_law_687 : decode cL_law 687 = .ok (.ifCond .ge 5, 3) := by decide +kernel
theorem dL_law_690 : decode cL_law 690 = .ok (.iconst 0, 1) := by decide +kernel
theorem dL_law_691 : decode cL_law 691 = .ok (.ireturn, 1) := by decide +kernel
theorem dL_law_692 : decode cL_law 692 = .ok (.iinc 20 1, 3) := by decide +kernel
theorem dL_law_695 : decode cL_law 695 = .ok (.goto (-54), 3) := by decide +kernel
theorem dL_law_698 : decode cL_law 698 = .ok (.iconst 0, 1) := by decide +kernel
theorem dL_law_699 : decode cL_law 699 = .ok (.istore 20, 2) := by decide +kernel
theorem dL_law_701 : decode cL_law 701 = .ok (.iload 20, 2) := by decide +kernel
theorem dL_law_703 : decode cL_law 703 = .ok (.bipush 8, 2) := by decide +kernel
theorem dL_law_705 : decode cL_law 705 = .ok (.if_icmp .ge 39, 3) := by decide +kernel
theorem dL_law_708 : decode cL_law 708 = .ok (.aload_n 1, 1) := by decide +kernel
theorem dL_law_709 : decode cL_law 709 = .ok (.iload 20, 2) := by decide +kernel
theorem dL_law_711 : decode cL_law 711 = .ok (.invokevirtual 131, 3) := by decide +kernel
theorem dL_law_714 : decode cL_law 714 = .ok (.istore 21, 2) := by decide +kernel
theorem dL_law_716 : decode cL_law 716 = .ok (.iload 21, 2) := by decide +kernel
theorem dL_law_718 : decode cL_law 718 = .ok (.iconst 1, 1) := by decide +kernel
theorem dL_law_719 : decode cL_law 719 = .ok (.if_icmp .lt 10, 3) := by decide +kernel
theorem dL_law_722 : decode cL_law 722 = .ok (.iload 21, 2) := by decide +kernel
theorem dL_law_724 : decode cL_law 724 = .ok (.bipush 12, 2) := by decide +kernel
theorem dL_law_726 : decode cL_law 726 = .ok (.if_icmp .le 5, 3) := by decide +kernel
theorem dL_law_729 : decode cL_law 729 = .ok (.iconst 0, 1) := by decide +kernel
theorem dL_law_730 : decode cL_law 730 = .ok (.ireturn, 1) := by decide +kernel
theorem dL_law_731 : decode cL_law 731 = .ok (.iload 19, 2) := by decide +kernel
theorem dL_law_733 : decode cL_law 733 = .ok (.iload 21, 2) := by decide +kernel
theorem dL_law_735 : decode cL_law 735 = .ok (.iadd, 1) := by decide +kernel
theorem dL_law_736 : decode cL_law 736 = .ok (.istore 19, 2) := by decide +kernel
theorem dL_law_738 : decode cL_law 738 = .ok (.iinc 20 1, 3) := by decide +kernel
theorem dL_law_741 : decode cL_law 741 = .ok (.goto (-40), 3) := by decide +kernel
theorem dL_law_744 : decode cL_law 744 = .ok (.iload 18, 2) := by decide +kernel
theorem dL_law_746 : decode cL_law 746 = .ok (.bipush 96, 2) := by decide +kernel
theorem dL_law_748 : decode cL_law 748 = .ok (.if_icmp .ne 14, 3) := by decide +kernel
theorem dL_law_751 : decode cL_law 751 = .ok (.iload 19, 2) := by decide +kernel
theorem dL_law_753 : decode cL_law 753 = .ok (.aload_n 1, 1) := by decide +kernel
theorem dL_law_754 : decode cL_law 754 = .ok (.bipush 7, 2) := by decide +kernel
theorem dL_law_756 : decode cL_law 756 = .ok (.invokevirtual 103, 3) := by decide +kernel
theorem dL_law_759 : decode cL_law 759 = .ok (.if_icmp .eq 5, 3) := by decide +kernel
theorem dL_law_762 : decode cL_law 762 = .ok (.iconst 0, 1) := by decide +kernel
theorem dL_law_763 : decode cL_law 763 = .ok (.ireturn, 1) := by decide +kernel
theorem dL_law_764 : decode cL_law 764 = .ok (.aload_n 1, 1) := by decide +kernel
theorem dL_law_765 : decode cL_law 765 = .ok (.invokevirtual 106, 3) := by decide +kernel
theorem dL_law_768 : decode cL_law 768 = .ok (.lload 7, 2) := by decide +kernel
theorem dL_law_770 : decode cL_law 770 = .ok (.lcmp, 1) := by decide +kernel
theorem dL_law_771 : decode cL_law 771 = .ok (.ifCond .eq 5, 3) := by decide +kernel
theorem dL_law_774 : decode cL_law 774 = .ok (.iconst 0, 1) := by decide +kernel
theorem dL_law_775 : decode cL_law 775 = .ok (.ireturn, 1) := by decide +kernel
theorem dL_law_776 : decode cL_law 776 = .ok (.iinc 3 1, 3) := by decide +kernel
theorem dL_law_779 : decode cL_law 779 = .ok (.goto (-757), 3) := by decide +kernel
theorem dL_law_782 : decode cL_law 782 = .ok (.aload_n 2, 1) := by decide +kernel
theorem dL_law_783 : decode cL_law 783 = .ok (.aload_n 1, 1) := by decide +kernel
theorem dL_law_784 : decode cL_law 784 = .ok (.invokevirtual 134, 3) := by decide +kernel
theorem dL_law_787 : decode cL_law 787 = .ok (.ireturn, 1) := by decide +kernel
abbrev vwCl : List vw_C := [(RX0, TX0, 6), (RX1, TX1, 1), (RX2, TX2, 5), (RX3, TX3, 1), (RX4, TX4, 10), (RX5, TX5, 10)]
