theorem dL_law_536 : decode code 536 = .ok (.iconst 1, 1) := by decide +kernel
theorem dL_law_537 : decode code 537 = .ok (.iadd, 1) := by decide +kernel
theorem dL_law_538 : decode code 538 = .ok (.iaload, 1) := by decide +kernel
theorem dL_law_539 : decode code 539 = .ok (.aload_n 0, 1) := by decide +kernel
theorem dL_law_540 : decode code 540 = .ok (.iload 4, 2) := by decide +kernel
theorem dL_law_542 : decode code 542 = .ok (.iconst 2, 1) := by decide +kernel
theorem dL_law_543 : decode code 543 = .ok (.iadd, 1) := by decide +kernel
theorem dL_law_544 : decode code 544 = .ok (.iaload, 1) := by decide +kernel
theorem dL_law_545 : decode code 545 = .ok (.aload_n 3, 1) := by decide +kernel
theorem dL_law_546 : decode code 546 = .ok (.invokestatic 132, 3) := by decide +kernel
theorem dL_law_549 : decode code 549 = .ok (.istore 5, 2) := by decide +kernel
theorem dL_law_551 : decode code 551 = .ok (.aload_n 2, 1) := by decide +kernel
theorem dL_law_552 : decode code 552 = .ok (.aload_n 0, 1) := by decide +kernel
theorem dL_law_553 : decode code 553 = .ok (.iload 4, 2) := by decide +kernel
theorem dL_law_555 : decode code 555 = .ok (.iconst 1, 1) := by decide +kernel
theorem dL_law_556 : decode code 556 = .ok (.iadd, 1) := by decide +kernel
theorem dL_law_557 : decode code 557 = .ok (.iaload, 1) := by decide +kernel
theorem dL_law_558 : decode code 558 = .ok (.aload_n 0, 1) := by decide +kernel
theorem dL_law_559 : decode code 559 = .ok (.iload 4, 2) := by decide +kernel
theorem dL_law_561 : decode code 561 = .ok (.iconst 2, 1) := by decide +kernel
theorem dL_law_562 : decode code 562 = .ok (.iadd, 1) := by decide +kernel
theorem dL_law_563 : decode code 563 = .ok (.iaload, 1) := by decide +kernel
theorem dL_law_564 : decode code 564 = .ok (.invokevirtual 134, 3) := by decide +kernel
theorem dL_law_567 : decode code 567 = .ok (.istore 6, 2) := by decide +kernel
theorem dL_law_569 : decode code 569 = .ok (.aload_n 2, 1) := by decide +kernel
theorem dL_law_570 : decode code 570 = .ok (.invokevirtual 100, 3) := by decide +kernel
theorem dL_law_573 : decode code 573 = .ok (.iload 5, 2) := by decide +kernel
theorem dL_law_575 : decode code 575 = .ok (.if_icmp .eq 5, 3) := by decide +kernel
theorem dL_law_578 : decode code 578 = .ok (.iconst 0, 1) := by decide +kernel
theorem dL_law_579 : decode code 579 = .ok (.ireturn, 1) := by decide +kernel
theorem dL_law_580 : decode code 580 = .ok (.iload 5, 2) := by decide +kernel
theorem dL_law_582 : decode code 582 = .ok (.ifCond .ne 15, 3) := by decide +kernel
theorem dL_law_585 : decode code 585 = .ok (.aload_n 3, 1) := by decide +kernel
theorem dL_law_586 : decode code 586 = .ok (.iconst 0, 1) := by decide +kernel
theorem dL_law_587 : decode code 587 = .ok (.laload, 1) := by decide +kernel
theorem dL_law_588 : decode code 588 = .ok (.iload 6, 2) := by decide +kernel
theorem dL_law_590 : decode code 590 = .ok (.i2l, 1) := by decide +kernel
theorem dL_law_591 : decode code 591 = .ok (.lcmp, 1) := by decide +kernel
theorem dL_law_592 : decode code 592 = .ok (.ifCond .eq 5, 3) := by decide +kernel
theorem dL_law_595 : decode code 595 = .ok (.iconst 0, 1) := by decide +kernel
theorem dL_law_596 : decode code 596 = .ok (.ireturn, 1) := by decide +kernel
theorem dL_law_597 : decode code 597 = .ok (.goto 1107, 3) := by decide +kernel
theorem dL_law_600 : decode code 600 = .ok (.aload_n 1, 1) := by decide +kernel
theorem dL_law_601 : decode code 601 = .ok (.invokevirtual 135, 3) := by decide +kernel
theorem dL_law_604 : decode code 604 = .ok (.aload_n 2, 1) := by decide +kernel
theorem dL_law_605 : decode code 605 = .ok (.invokevirtual 138, 3) := by decide +kernel
theorem dL_law_608 : decode code 608 = .ok (.if_icmp .eq 1096, 3) := by decide +kernel
theorem dL_law_611 : decode code 611 = .ok (.iconst 0, 1) := by decide +kernel
theorem dL_law_612 : decode code 612 = .ok (.ireturn, 1) := by decide +kernel
theorem dL_law_613 : decode code 613 = .ok (.aload_n 1, 1) := by decide +kernel
theorem dL_law_614 : decode code 614 = .ok (.invokevirtual 139, 3) := by decide +kernel
theorem dL_law_617 : decode code 617 = .ok (.aload_n 2, 1) := by decide +kernel
theorem dL_law_618 : decode code 618 = .ok (.invokevirtual 142, 3) := by decide +kernel
theorem dL_law_621 : decode code 621 = .ok (.if_icmp .eq 1083, 3) := by decide +kernel
theorem dL_law_624 : decode code 624 = .ok (.iconst 0, 1) := by decide +kernel
theorem dL_law_625 : decode code 625 = .ok (.ireturn, 1) := by decide +kernel
theorem dL_law_626 : decode code 626 = .ok (.aload_n 1, 1) := by decide +kernel
theorem dL_law_627 : decode code 627 = .ok (.invokevirtual 143, 3) := by decide +kernel
theorem dL_law_630 : decode code 630 = .ok (.aload_n 2, 1) := by decide +kernel
theorem dL_law_631 : decode code 631 = .ok (.invokevirtual 146, 3) := by decide +kernel
theorem dL_law_634 : decode code 634 = .ok (.if_icmp .eq 1070, 3) := by decide +kernel
theorem dL_law_637 : decode code 637 = .ok (.iconst 0, 1) := by decide +kernel
theorem dL_law_638 : decode code 638 = .ok (.ireturn, 1) := by decide +kernel
theorem dL_law_639 : decode code 639 = .ok (.aload_n 1, 1) := by decide +kernel
theorem dL_law_640 : decode code 640 = .ok (.aload_n 0, 1) := by decide +kernel
theorem dL_law_641 : decode code 641 = .ok (.iload 4, 2) := by decide +kernel
theorem dL_law_643 : decode code 643 = .ok (.iconst 1, 1) := by decide +kernel
theorem dL_law_644 : decode code 644 = .ok (.iadd, 1) := by decide +kernel
theorem dL_law_645 : decode code 645 = .ok (.iaload, 1) := by decide +kernel
theorem dL_law_646 : decode code 646 = .ok (.aload_n 3, 1) := by decide +kernel
theorem dL_law_647 : decode code 647 = .ok (.invokestatic 147, 3) := by decide +kernel
theorem dL_law_650 : decode code 650 = .ok (.istore 5, 2) := by decide +kernel
theorem dL_law_652 : decode code 652 = .ok (.aload_n 2, 1) := by decide +kernel
theorem dL_law_653 : decode code 653 = .ok (.aload_n 0, 1) := by decide +kernel
theorem dL_law_654 : decode code 654 = .ok (.iload 4, 2) := by decide +kernel
theorem dL_law_656 : decode code 656 = .ok (.iconst 1, 1) := by decide +kernel
theorem dL_law_657 : decode code 657 = .ok (.iadd, 1) := by decide +kernel
theorem dL_law_658 : decode code 658 = .ok (.iaload, 1) := by decide +kernel
theorem dL_law_659 : decode code 659 = .ok (.invokevirtual 149, 3) := by decide +kernel
theorem dL_law_662 : decode code 662 = .ok (.istore 6, 2) := by decide +kernel
theorem dL_law_664 : decode code 664 = .ok (.aload_n 2, 1) := by decide +kernel
theorem dL_law_665 : decode code 665 = .ok (.invokevirtual 100, 3) := by decide +kernel
theorem dL_law_668 : decode code 668 = .ok (.iload 5, 2) := by decide +kernel
theorem dL_law_670 : decode code 670 = .ok (.if_icmp .eq 5, 3) := by decide +kernel
theorem dL_law_673 : decode code 673 = .ok (.iconst 0, 1) := by decide +kernel
theorem dL_law_674 : decode code 674 = .ok (.ireturn, 1) := by decide +kernel
theorem dL_law_675 : decode code 675 = .ok (.iload 5, 2) := by decide +kernel
theorem dL_law_677 : decode code 677 = .ok (.ifCond .ne 15, 3) := by decide +kernel
theorem dL_law_680 : decode code 680 = .ok (.aload_n 3, 1) := by decide +kernel
theorem dL_law_681 : decode code 681 = .ok (.iconst 0, 1) := by decide +kernel
theorem dL_law_682 : decode code 682 = .ok (.laload, 1) := by decide +kernel
theorem dL_law_683 : decode code 683 = .ok (.iload 6, 2) := by decide +kernel
theorem dL_law_685 : decode code 685 = .ok (.i2l, 1) := by decide +kernel
theorem dL_law_686 : decode code 686 = .ok (.lcmp, 1) := by decide +kernel
theorem dL_law_687 : decode code 687 = .ok (.ifCond .eq 5, 3) := by decide +kernel
theorem dL_law_690 : decode code 690 = .ok (.iconst 0, 1) := by decide +kernel
theorem dL_law_691 : decode code 691 = .ok (.ireturn, 1) := by decide +kernel
theorem dL_law_692 : decode code 692 = .ok (.goto 1012, 3) := by decide +kernel
theorem dL_law_695 : decode code 695 = .ok (.aload_n 1, 1) := by decide +kernel
theorem dL_law_696 : decode code 696 = .ok (.aload_n 0, 1) := by decide +kernel
theorem dL_law_697 : decode code 697 = .ok (.iload 4, 2) := by decide +kernel
theorem dL_law_699 : decode code 699 = .ok (.iconst 1, 1) := by decide +kernel
theorem dL_law_700 : decode code 700 = .ok (.iadd, 1) := by decide +kernel
theorem dL_law_701 : decode code 701 = .ok (.iaload, 1) := by decide +kernel
theorem dL_law_702 : decode code 702 = .ok (.aload_n 3, 1) := by decide +kernel
theorem dL_law_703 : decode code 703 = .ok (.invokestatic 150, 3) := by decide +kernel
theorem dL_law_706 : decode code 706 = .ok (.istore 5, 2) := by decide +kernel
theorem dL_law_708 : decode code 708 = .ok (.aload_n 2, 1) := by decide +kernel
theorem dL_law_709 : decode code 709 = .ok (.aload_n 0, 1) := by decide +kernel
theorem dL_law_710 : decode code 710 = .ok (.iload 4, 2) := by decide +kernel
theorem dL_law_712 : decode code 712 = .ok (.iconst 1, 1) := by decide +kernel
theorem dL_law_713 : decode code 713 = .ok (.iadd, 1) := by decide +kernel
theorem dL_law_714 : decode code 714 = .ok (.iaload, 1) := by decide +kernel
theorem dL_law_715 : decode code 715 = .ok (.invokevirtual 152, 3) := by decide +kernel
theorem dL_law_718 : decode code 718 = .ok (.istore 6, 2) := by decide +kernel
theorem dL_law_720 : decode code 720 = .ok (.aload_n 2, 1) := by decide +kernel
theorem dL_law_721 : decode code 721 = .ok (.invokevirtual 100, 3) := by decide +kernel
theorem dL_law_724 : decode code 724 = .ok (.iload 5, 2) := by decide +kernel
theorem dL_law_726 : decode code 726 = .ok (.if_icmp .eq 5, 3) := by decide +kernel
theorem dL_law_729 : decode code 729 = .ok (.iconst 0, 1) := by decide +kernel
theorem dL_law_730 : decode code 730 = .ok (.ireturn, 1) := by decide +kernel
theorem dL_law_731 : decode code 731 = .ok (.iload 5, 2) := by decide +kernel
theorem dL_law_733 : decode code 733 = .ok (.ifCond .ne 15, 3) := by decide +kernel
theorem dL_law_736 : decode code 736 = .ok (.aload_n 3, 1) := by decide +kernel
theorem dL_law_737 : decode code 737 = .ok (.iconst 0, 1) := by decide +kernel
theorem dL_law_738 : decode code 738 = .ok (.laload, 1) := by decide +kernel
theorem dL_law_739 : decode code 739 = .ok (.iload 6, 2) := by decide +kernel
theorem dL_law_741 : decode code 741 = .ok (.i2l, 1) := by decide +kernel
theorem dL_law_742 : decode code 742 = .ok (.lcmp, 1) := by decide +kernel
theorem dL_law_743 : decode code 743 = .ok (.ifCond .eq 5, 3) := by decide +kernel
theorem dL_law_746 : decode code 746 = .ok (.iconst 0, 1) := by decide +kernel
theorem dL_law_747 : decode code 747 = .ok (.ireturn, 1) := by decide +kernel
theorem dL_law_748 : decode code 748 = .ok (.goto 956, 3) := by decide +kernel
theorem dL_law_751 : decode code 751 = .ok (.aload_n 1, 1) := by decide +kernel
theorem dL_law_752 : decode code 752 = .ok (.aload_n 0, 1) := by decide +kernel
theorem dL_law_753 : decode code 753 = .ok (.iload 4, 2) := by decide +kernel
theorem dL_law_755 : decode code 755 = .ok (.iconst 1, 1) := by decide +kernel
theorem dL_law_756 : decode code 756 = .ok (.iadd, 1) := by decide +kernel
theorem dL_law_757 : decode code 757 = .ok (.iaload, 1) := by decide +kernel
theorem dL_law_758 : decode code 758 = .ok (.aload_n 0, 1) := by decide +kernel
theorem dL_law_759 : decode code 759 = .ok (.iload 4, 2) := by decide +kernel
theorem dL_law_761 : decode code 761 = .ok (.iconst 2, 1) := by decide +kernel
theorem dL_law_762 : decode code 762 = .ok (.iadd, 1) := by decide +kernel
theorem dL_law_763 : decode code 763 = .ok (.iaload, 1) := by decide +kernel
theorem dL_law_764 : decode code 764 = .ok (.ifCond .eq 7, 3) := by decide +kernel
theorem dL_law_767 : decode code 767 = .ok (.iconst 1, 1) := by decide +kernel
theorem dL_law_768 : decode code 768 = .ok (.goto 4, 3) := by decide +kernel
theorem dL_law_771 : decode code 771 = .ok (.iconst 0, 1) := by decide +kernel
theorem dL_law_772 : decode code 772 = .ok (.aload_n 3, 1) := by decide +kernel
theorem dL_law_773 : decode code 773 = .ok (.invokestatic 153, 3) := by decide +kernel
theorem dL_law_776 : decode code 776 = .ok (.istore 5, 2) := by decide +kernel
theorem dL_law_778 : decode code 778 = .ok (.aload_n 2, 1) := by decide +kernel
theorem dL_law_779 : decode code 779 = .ok (.aload_n 0, 1) := by decide +kernel
theorem dL_law_780 : decode code 780 = .ok (.iload 4, 2) := by decide +kernel
theorem dL_law_782 : decode code 782 = .ok (.iconst 1, 1) := by decide +kernel
theorem dL_law_783 : decode code 783 = .ok (.iadd, 1) := by decide +kernel
theorem dL_law_784 : decode code 784 = .ok (.iaload, 1) := by decide +kernel
theorem dL_law_785 : decode code 785 = .ok (.aload_n 0, 1) := by decide +kernel
theorem dL_law_786 : decode code 786 = .ok (.iload 4, 2) := by decide +kernel
theorem dL_law_788 : decode code 788 = .ok (.iconst 2, 1) := by decide +kernel
theorem dL_law_789 : decode code 789 = .ok (.iadd, 1) := by decide +kernel
theorem dL_law_790 : decode code 790 = .ok (.iaload, 1) := by decide +kernel
theorem dL_law_791 : decode code 791 = .ok (.ifCond .eq 7, 3) := by decide +kernel
theorem dL_law_794 : decode code 794 = .ok (.iconst 1, 1) := by decide +kernel
theorem dL_law_795 : decode code 795 = .ok (.goto 4, 3) := by decide +kernel
theorem dL_law_798 : decode code 798 = .ok (.iconst 0, 1) := by decide +kernel
theorem dL_law_799 : decode code 799 = .ok (.invokevirtual 156, 3) := by decide +kernel
theorem dL_law_802 : decode code 802 = .ok (.istore 6, 2) := by decide +kernel
theorem dL_law_804 : decode code 804 = .ok (.aload_n 2, 1) := by decide +kernel
theorem dL_law_805 : decode code 805 = .ok (.invokevirtual 100, 3) := by decide +kernel
theorem dL_law_808 : decode code 808 = .ok (.iload 5, 2) := by decide +kernel
theorem dL_law_810 : decode code 810 = .ok (.if_icmp .eq 5, 3) := by decide +kernel
theorem dL_law_813 : decode code 813 = .ok (.iconst 0, 1) := by decide +kernel
theorem dL_law_814 : decode code 814 = .ok (.ireturn, 1) := by decide +kernel
theorem dL_law_815 : decode code 815 = .ok (.iload 5, 2) := by decide +kernel
theorem dL_law_817 : decode code 817 = .ok (.ifCond .ne 15, 3) := by decide +kernel
theorem dL_law_820 : decode code 820 = .ok (.aload_n 3, 1) := by decide +kernel
theorem dL_law_821 : decode code 821 = .ok (.iconst 0, 1) := by decide +kernel
theorem dL_law_822 : decode code 822 = .ok (.laload, 1) := by decide +kernel
theorem dL_law_823 : decode code 823 = .ok (.iload 6, 2) := by decide +kernel
theorem dL_law_825 : decode code 825 = .ok (.i2l, 1) := by decide +kernel
theorem dL_law_826 : decode code 826 = .ok (.lcmp, 1) := by decide +kernel
theorem dL_law_827 : decode code 827 = .ok (.ifCond .eq 5, 3) := by decide +kernel
theorem dL_law_830 : decode code 830 = .ok (.iconst 0, 1) := by decide +kernel
theorem dL_law_831 : decode code 831 = .ok (.ireturn, 1) := by decide +kernel
theorem dL_law_832 : decode code 832 = .ok (.goto 872, 3) := by decide +kernel
theorem dL_law_835 : decode code 835 = .ok (.aload_n 1, 1) := by decide +kernel
theorem dL_law_836 : decode code 836 = .ok (.aload_n 0, 1) := by decide +kernel
theorem dL_law_837 : decode code 837 = .ok (.iload 4, 2) := by decide +kernel
theorem dL_law_839 : decode code 839 = .ok (.iconst 1, 1) := by decide +kernel
theorem dL_law_840 : decode code 840 = .ok (.iadd, 1) := by decide +kernel
theorem dL_law_841 : decode code 841 = .ok (.iaload, 1) := by decide +kernel
theorem dL_law_842 : decode code 842 = .ok (.aload_n 3, 1) := by decide +kernel
theorem dL_law_843 : decode code 843 = .ok (.invokestatic 157, 3) := by decide +kernel
theorem dL_law_846 : decode code 846 = .ok (.istore 5, 2) := by decide +kernel
theorem dL_law_848 : decode code 848 = .ok (.aload_n 2, 1) := by decide +kernel
theorem dL_law_849 : decode code 849 = .ok (.aload_n 0, 1) := by decide +kernel
theorem dL_law_850 : decode code 850 = .ok (.iload 4, 2) := by decide +kernel
theorem dL_law_852 : decode code 852 = .ok (.iconst 1, 1) := by decide +kernel
theorem dL_law_853 : decode code 853 = .ok (.iadd, 1) := by decide +kernel
theorem dL_law_854 : decode code 854 = .ok (.iaload, 1) := by decide +kernel
theorem dL_law_855 : decode code 855 = .ok (.invokevirtual 159, 3) := by decide +kernel
theorem dL_law_858 : decode code 858 = .ok (.istore 6, 2) := by decide +kernel
theorem dL_law_860 : decode code 860 = .ok (.aload_n 2, 1) := by decide +kernel
theorem dL_law_861 : decode code 861 = .ok (.invokevirtual 100, 3) := by decide +kernel
theorem dL_law_864 : decode code 864 = .ok (.iload 5, 2) := by decide +kernel
theorem dL_law_866 : decode code 866 = .ok (.if_icmp .eq 5, 3) := by decide +kernel
theorem dL_law_869 : decode code 869 = .ok (.iconst 0, 1) := by decide +kernel
theorem dL_law_870 : decode code 870 = .ok (.ireturn, 1) := by decide +kernel
theorem dL_law_871 : decode code 871 = .ok (.iload 5, 2) := by decide +kernel
theorem dL_law_873 : decode code 873 = .ok (.ifCond .ne 15, 3) := by decide +kernel
theorem dL_law_876 : decode code 876 = .ok (.aload_n 3, 1) := by decide +kernel
theorem dL_law_877 : decode code 877 = .ok (.iconst 0, 1) := by decide +kernel
theorem dL_law_878 : decode code 878 = .ok (.laload, 1) := by decide +kernel
theorem dL_law_879 : decode code 879 = .ok (.iload 6, 2) := by decide +kernel
theorem dL_law_881 : decode code 881 = .ok (.i2l, 1) := by decide +kernel
theorem dL_law_882 : decode code 882 = .ok (.lcmp, 1) := by decide +kernel
theorem dL_law_883 : decode code 883 = .ok (.ifCond .eq 5, 3) := by decide +kernel
theorem dL_law_886 : decode code 886 = .ok (.iconst 0, 1) := by decide +kernel
theorem dL_law_887 : decode code 887 = .ok (.ireturn, 1) := by decide +kernel
theorem dL_law_888 : decode code 888 = .ok (.goto 816, 3) := by decide +kernel
theorem dL_law_891 : decode code 891 = .ok (.aload_n 1, 1) := by decide +kernel
theorem dL_law_892 : decode code 892 = .ok (.aload_n 0, 1) := by decide +kernel
theorem dL_law_893 : decode code 893 = .ok (.iload 4, 2) := by decide +kernel
theorem dL_law_895 : decode code 895 = .ok (.iconst 1, 1) := by decide +kernel
theorem dL_law_896 : decode code 896 = .ok (.iadd, 1) := by decide +kernel
theorem dL_law_897 : decode code 897 = .ok (.iaload, 1) := by decide +kernel
theorem dL_law_898 : decode code 898 = .ok (.aload_n 3, 1) := by decide +kernel
theorem dL_law_899 : decode code 899 = .ok (.invokestatic 160, 3) := by decide +kernel
theorem dL_law_902 : decode code 902 = .ok (.istore 5, 2) := by decide +kernel
theorem dL_law_904 : decode code 904 = .ok (.aload_n 2, 1) := by decide +kernel
theorem dL_law_905 : decode code 905 = .ok (.aload_n 0, 1) := by decide +kernel
theorem dL_law_906 : decode code 906 = .ok (.iload 4, 2) := by decide +kernel
theorem dL_law_908 : decode code 908 = .ok (.iconst 1, 1) := by decide +kernel
theorem dL_law_909 : decode code 909 = .ok (.iadd, 1) := by decide +kernel
theorem dL_law_910 : decode code 910 = .ok (.iaload, 1) := by decide +kernel
theorem dL_law_911 : decode code 911 = .ok (.invokevirtual 162, 3) := by decide +kernel
theorem dL_law_914 : decode code 914 = .ok (.istore 6, 2) := by decide +kernel
theorem dL_law_916 : decode code 916 = .ok (.aload_n 2, 1) := by decide +kernel
theorem dL_law_917 : decode code 917 = .ok (.invokevirtual 100, 3) := by decide +kernel
theorem dL_law_920 : decode code 920 = .ok (.iload 5, 2) := by decide +kernel
theorem dL_law_922 : decode code 922 = .ok (.if_icmp .eq 5, 3) := by decide +kernel
theorem dL_law_925 : decode code 925 = .ok (.iconst 0, 1) := by decide +kernel
theorem dL_law_926 : decode code 926 = .ok (.ireturn, 1) := by decide +kernel
theorem dL_law_927 : decode code 927 = .ok (.iload 5, 2) := by decide +kernel
theorem dL_law_929 : decode code 929 = .ok (.ifCond .ne 15, 3) := by decide +kernel
theorem dL_law_932 : decode code 932 = .ok (.aload_n 3, 1) := by decide +kernel
theorem dL_law_933 : decode code 933 = .ok (.iconst 0, 1) := by decide +kernel
theorem dL_law_934 : decode code 934 = .ok (.laload, 1) := by decide +kernel
theorem dL_law_935 : decode code 935 = .ok (.iload 6, 2) := by decide +kernel
theorem dL_law_937 : decode code 937 = .ok (.i2l, 1) := by decide +kernel
