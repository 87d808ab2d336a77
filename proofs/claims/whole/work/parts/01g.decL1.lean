theorem dL_law_563 : decode code 563 = .ok (.aload_n 0, 1) := by decide +kernel
theorem dL_law_564 : decode code 564 = .ok (.iload 4, 2) := by decide +kernel
theorem dL_law_566 : decode code 566 = .ok (.iconst 4, 1) := by decide +kernel
theorem dL_law_567 : decode code 567 = .ok (.iadd, 1) := by decide +kernel
theorem dL_law_568 : decode code 568 = .ok (.iaload, 1) := by decide +kernel
theorem dL_law_569 : decode code 569 = .ok (.aload_n 0, 1) := by decide +kernel
theorem dL_law_570 : decode code 570 = .ok (.iload 4, 2) := by decide +kernel
theorem dL_law_572 : decode code 572 = .ok (.iconst 5, 1) := by decide +kernel
theorem dL_law_573 : decode code 573 = .ok (.iadd, 1) := by decide +kernel
theorem dL_law_574 : decode code 574 = .ok (.iaload, 1) := by decide +kernel
theorem dL_law_575 : decode code 575 = .ok (.aload_n 3, 1) := by decide +kernel
theorem dL_law_576 : decode code 576 = .ok (.invokestatic 120, 3) := by decide +kernel
theorem dL_law_579 : decode code 579 = .ok (.istore 5, 2) := by decide +kernel
theorem dL_law_581 : decode code 581 = .ok (.aload_n 2, 1) := by decide +kernel
theorem dL_law_582 : decode code 582 = .ok (.aload_n 0, 1) := by decide +kernel
theorem dL_law_583 : decode code 583 = .ok (.iload 4, 2) := by decide +kernel
theorem dL_law_585 : decode code 585 = .ok (.iconst 1, 1) := by decide +kernel
theorem dL_law_586 : decode code 586 = .ok (.iadd, 1) := by decide +kernel
theorem dL_law_587 : decode code 587 = .ok (.iaload, 1) := by decide +kernel
theorem dL_law_588 : decode code 588 = .ok (.aload_n 0, 1) := by decide +kernel
theorem dL_law_589 : decode code 589 = .ok (.iload 4, 2) := by decide +kernel
theorem dL_law_591 : decode code 591 = .ok (.iconst 2, 1) := by decide +kernel
theorem dL_law_592 : decode code 592 = .ok (.iadd, 1) := by decide +kernel
theorem dL_law_593 : decode code 593 = .ok (.iaload, 1) := by decide +kernel
theorem dL_law_594 : decode code 594 = .ok (.aload_n 0, 1) := by decide +kernel
theorem dL_law_595 : decode code 595 = .ok (.iload 4, 2) := by decide +kernel
theorem dL_law_597 : decode code 597 = .ok (.iconst 3, 1) := by decide +kernel
theorem dL_law_598 : decode code 598 = .ok (.iadd, 1) := by decide +kernel
theorem dL_law_599 : decode code 599 = .ok (.iaload, 1) := by decide +kernel
theorem dL_law_600 : decode code 600 = .ok (.aload_n 0, 1) := by decide +kernel
theorem dL_law_601 : decode code 601 = .ok (.iload 4, 2) := by decide +kernel
theorem dL_law_603 : decode code 603 = .ok (.iconst 4, 1) := by decide +kernel
theorem dL_law_604 : decode code 604 = .ok (.iadd, 1) := by decide +kernel
theorem dL_law_605 : decode code 605 = .ok (.iaload, 1) := by decide +kernel
theorem dL_law_606 : decode code 606 = .ok (.aload_n 0, 1) := by decide +kernel
theorem dL_law_607 : decode code 607 = .ok (.iload 4, 2) := by decide +kernel
theorem dL_law_609 : decode code 609 = .ok (.iconst 5, 1) := by decide +kernel
theorem dL_law_610 : decode code 610 = .ok (.iadd, 1) := by decide +kernel
theorem dL_law_611 : decode code 611 = .ok (.iaload, 1) := by decide +kernel
theorem dL_law_612 : decode code 612 = .ok (.invokevirtual 123, 3) := by decide +kernel
theorem dL_law_615 : decode code 615 = .ok (.istore 6, 2) := by decide +kernel
theorem dL_law_617 : decode code 617 = .ok (.aload_n 2, 1) := by decide +kernel
theorem dL_law_618 : decode code 618 = .ok (.invokevirtual 100, 3) := by decide +kernel
theorem dL_law_621 : decode code 621 = .ok (.iload 5, 2) := by decide +kernel
theorem dL_law_623 : decode code 623 = .ok (.if_icmp .eq 5, 3) := by decide +kernel
theorem dL_law_626 : decode code 626 = .ok (.iconst 0, 1) := by decide +kernel
theorem dL_law_627 : decode code 627 = .ok (.ireturn, 1) := by decide +kernel
theorem dL_law_628 : decode code 628 = .ok (.iload 5, 2) := by decide +kernel
theorem dL_law_630 : decode code 630 = .ok (.ifCond .ne 15, 3) := by decide +kernel
theorem dL_law_633 : decode code 633 = .ok (.aload_n 3, 1) := by decide +kernel
theorem dL_law_634 : decode code 634 = .ok (.iconst 0, 1) := by decide +kernel
theorem dL_law_635 : decode code 635 = .ok (.laload, 1) := by decide +kernel
theorem dL_law_636 : decode code 636 = .ok (.iload 6, 2) := by decide +kernel
theorem dL_law_638 : decode code 638 = .ok (.i2l, 1) := by decide +kernel
theorem dL_law_639 : decode code 639 = .ok (.lcmp, 1) := by decide +kernel
theorem dL_law_640 : decode code 640 = .ok (.ifCond .eq 5, 3) := by decide +kernel
theorem dL_law_643 : decode code 643 = .ok (.iconst 0, 1) := by decide +kernel
theorem dL_law_644 : decode code 644 = .ok (.ireturn, 1) := by decide +kernel
theorem dL_law_645 : decode code 645 = .ok (.goto 1245, 3) := by decide +kernel
theorem dL_law_648 : decode code 648 = .ok (.aload_n 1, 1) := by decide +kernel
theorem dL_law_649 : decode code 649 = .ok (.aload_n 0, 1) := by decide +kernel
theorem dL_law_650 : decode code 650 = .ok (.iload 4, 2) := by decide +kernel
theorem dL_law_652 : decode code 652 = .ok (.iconst 1, 1) := by decide +kernel
theorem dL_law_653 : decode code 653 = .ok (.iadd, 1) := by decide +kernel
theorem dL_law_654 : decode code 654 = .ok (.iaload, 1) := by decide +kernel
theorem dL_law_655 : decode code 655 = .ok (.aload_n 0, 1) := by decide +kernel
theorem dL_law_656 : decode code 656 = .ok (.iload 4, 2) := by decide +kernel
theorem dL_law_658 : decode code 658 = .ok (.iconst 2, 1) := by decide +kernel
theorem dL_law_659 : decode code 659 = .ok (.iadd, 1) := by decide +kernel
theorem dL_law_660 : decode code 660 = .ok (.iaload, 1) := by decide +kernel
theorem dL_law_661 : decode code 661 = .ok (.aload_n 0, 1) := by decide +kernel
theorem dL_law_662 : decode code 662 = .ok (.iload 4, 2) := by decide +kernel
theorem dL_law_664 : decode code 664 = .ok (.iconst 3, 1) := by decide +kernel
theorem dL_law_665 : decode code 665 = .ok (.iadd, 1) := by decide +kernel
theorem dL_law_666 : decode code 666 = .ok (.iaload, 1) := by decide +kernel
theorem dL_law_667 : decode code 667 = .ok (.aload_n 3, 1) := by decide +kernel
theorem dL_law_668 : decode code 668 = .ok (.invokestatic 124, 3) := by decide +kernel
theorem dL_law_671 : decode code 671 = .ok (.istore 5, 2) := by decide +kernel
theorem dL_law_673 : decode code 673 = .ok (.aload_n 2, 1) := by decide +kernel
theorem dL_law_674 : decode code 674 = .ok (.aload_n 0, 1) := by decide +kernel
theorem dL_law_675 : decode code 675 = .ok (.iload 4, 2) := by decide +kernel
theorem dL_law_677 : decode code 677 = .ok (.iconst 1, 1) := by decide +kernel
theorem dL_law_678 : decode code 678 = .ok (.iadd, 1) := by decide +kernel
theorem dL_law_679 : decode code 679 = .ok (.iaload, 1) := by decide +kernel
theorem dL_law_680 : decode code 680 = .ok (.aload_n 0, 1) := by decide +kernel
theorem dL_law_681 : decode code 681 = .ok (.iload 4, 2) := by decide +kernel
theorem dL_law_683 : decode code 683 = .ok (.iconst 2, 1) := by decide +kernel
theorem dL_law_684 : decode code 684 = .ok (.iadd, 1) := by decide +kernel
theorem dL_law_685 : decode code 685 = .ok (.iaload, 1) := by decide +kernel
theorem dL_law_686 : decode code 686 = .ok (.aload_n 0, 1) := by decide +kernel
theorem dL_law_687 : decode code 687 = .ok (.iload 4, 2) := by decide +kernel
theorem dL_law_689 : decode code 689 = .ok (.iconst 3, 1) := by decide +kernel
theorem dL_law_690 : decode code 690 = .ok (.iadd, 1) := by decide +kernel
theorem dL_law_691 : decode code 691 = .ok (.iaload, 1) := by decide +kernel
theorem dL_law_692 : decode code 692 = .ok (.invokevirtual 126, 3) := by decide +kernel
theorem dL_law_695 : decode code 695 = .ok (.istore 6, 2) := by decide +kernel
theorem dL_law_697 : decode code 697 = .ok (.aload_n 2, 1) := by decide +kernel
theorem dL_law_698 : decode code 698 = .ok (.invokevirtual 100, 3) := by decide +kernel
theorem dL_law_701 : decode code 701 = .ok (.iload 5, 2) := by decide +kernel
theorem dL_law_703 : decode code 703 = .ok (.if_icmp .eq 5, 3) := by decide +kernel
theorem dL_law_706 : decode code 706 = .ok (.iconst 0, 1) := by decide +kernel
theorem dL_law_707 : decode code 707 = .ok (.ireturn, 1) := by decide +kernel
theorem dL_law_708 : decode code 708 = .ok (.iload 5, 2) := by decide +kernel
theorem dL_law_710 : decode code 710 = .ok (.ifCond .ne 15, 3) := by decide +kernel
theorem dL_law_713 : decode code 713 = .ok (.aload_n 3, 1) := by decide +kernel
theorem dL_law_714 : decode code 714 = .ok (.iconst 0, 1) := by decide +kernel
theorem dL_law_715 : decode code 715 = .ok (.laload, 1) := by decide +kernel
theorem dL_law_716 : decode code 716 = .ok (.iload 6, 2) := by decide +kernel
theorem dL_law_718 : decode code 718 = .ok (.i2l, 1) := by decide +kernel
theorem dL_law_719 : decode code 719 = .ok (.lcmp, 1) := by decide +kernel
theorem dL_law_720 : decode code 720 = .ok (.ifCond .eq 5, 3) := by decide +kernel
theorem dL_law_723 : decode code 723 = .ok (.iconst 0, 1) := by decide +kernel
theorem dL_law_724 : decode code 724 = .ok (.ireturn, 1) := by decide +kernel
theorem dL_law_725 : decode code 725 = .ok (.goto 1165, 3) := by decide +kernel
theorem dL_law_728 : decode code 728 = .ok (.aload_n 1, 1) := by decide +kernel
theorem dL_law_729 : decode code 729 = .ok (.aload_n 0, 1) := by decide +kernel
theorem dL_law_730 : decode code 730 = .ok (.iload 4, 2) := by decide +kernel
theorem dL_law_732 : decode code 732 = .ok (.iconst 1, 1) := by decide +kernel
theorem dL_law_733 : decode code 733 = .ok (.iadd, 1) := by decide +kernel
theorem dL_law_734 : decode code 734 = .ok (.iaload, 1) := by decide +kernel
theorem dL_law_735 : decode code 735 = .ok (.aload_n 0, 1) := by decide +kernel
theorem dL_law_736 : decode code 736 = .ok (.iload 4, 2) := by decide +kernel
theorem dL_law_738 : decode code 738 = .ok (.iconst 2, 1) := by decide +kernel
theorem dL_law_739 : decode code 739 = .ok (.iadd, 1) := by decide +kernel
theorem dL_law_740 : decode code 740 = .ok (.iaload, 1) := by decide +kernel
theorem dL_law_741 : decode code 741 = .ok (.aload_n 0, 1) := by decide +kernel
theorem dL_law_742 : decode code 742 = .ok (.iload 4, 2) := by decide +kernel
theorem dL_law_744 : decode code 744 = .ok (.iconst 3, 1) := by decide +kernel
theorem dL_law_745 : decode code 745 = .ok (.iadd, 1) := by decide +kernel
theorem dL_law_746 : decode code 746 = .ok (.iaload, 1) := by decide +kernel
theorem dL_law_747 : decode code 747 = .ok (.aload_n 0, 1) := by decide +kernel
theorem dL_law_748 : decode code 748 = .ok (.iload 4, 2) := by decide +kernel
theorem dL_law_750 : decode code 750 = .ok (.iconst 4, 1) := by decide +kernel
theorem dL_law_751 : decode code 751 = .ok (.iadd, 1) := by decide +kernel
theorem dL_law_752 : decode code 752 = .ok (.iaload, 1) := by decide +kernel
theorem dL_law_753 : decode code 753 = .ok (.aload_n 3, 1) := by decide +kernel
theorem dL_law_754 : decode code 754 = .ok (.invokestatic 127, 3) := by decide +kernel
theorem dL_law_757 : decode code 757 = .ok (.istore 5, 2) := by decide +kernel
theorem dL_law_759 : decode code 759 = .ok (.aload_n 2, 1) := by decide +kernel
theorem dL_law_760 : decode code 760 = .ok (.aload_n 0, 1) := by decide +kernel
theorem dL_law_761 : decode code 761 = .ok (.iload 4, 2) := by decide +kernel
theorem dL_law_763 : decode code 763 = .ok (.iconst 1, 1) := by decide +kernel
theorem dL_law_764 : decode code 764 = .ok (.iadd, 1) := by decide +kernel
theorem dL_law_765 : decode code 765 = .ok (.iaload, 1) := by decide +kernel
theorem dL_law_766 : decode code 766 = .ok (.aload_n 0, 1) := by decide +kernel
theorem dL_law_767 : decode code 767 = .ok (.iload 4, 2) := by decide +kernel
theorem dL_law_769 : decode code 769 = .ok (.iconst 2, 1) := by decide +kernel
theorem dL_law_770 : decode code 770 = .ok (.iadd, 1) := by decide +kernel
theorem dL_law_771 : decode code 771 = .ok (.iaload, 1) := by decide +kernel
theorem dL_law_772 : decode code 772 = .ok (.aload_n 0, 1) := by decide +kernel
theorem dL_law_773 : decode code 773 = .ok (.iload 4, 2) := by decide +kernel
theorem dL_law_775 : decode code 775 = .ok (.iconst 3, 1) := by decide +kernel
theorem dL_law_776 : decode code 776 = .ok (.iadd, 1) := by decide +kernel
theorem dL_law_777 : decode code 777 = .ok (.iaload, 1) := by decide +kernel
theorem dL_law_778 : decode code 778 = .ok (.aload_n 0, 1) := by decide +kernel
theorem dL_law_779 : decode code 779 = .ok (.iload 4, 2) := by decide +kernel
theorem dL_law_781 : decode code 781 = .ok (.iconst 4, 1) := by decide +kernel
theorem dL_law_782 : decode code 782 = .ok (.iadd, 1) := by decide +kernel
theorem dL_law_783 : decode code 783 = .ok (.iaload, 1) := by decide +kernel
theorem dL_law_784 : decode code 784 = .ok (.invokevirtual 129, 3) := by decide +kernel
theorem dL_law_787 : decode code 787 = .ok (.istore 6, 2) := by decide +kernel
theorem dL_law_789 : decode code 789 = .ok (.aload_n 2, 1) := by decide +kernel
theorem dL_law_790 : decode code 790 = .ok (.invokevirtual 100, 3) := by decide +kernel
theorem dL_law_793 : decode code 793 = .ok (.iload 5, 2) := by decide +kernel
theorem dL_law_795 : decode code 795 = .ok (.if_icmp .eq 5, 3) := by decide +kernel
theorem dL_law_798 : decode code 798 = .ok (.iconst 0, 1) := by decide +kernel
theorem dL_law_799 : decode code 799 = .ok (.ireturn, 1) := by decide +kernel
theorem dL_law_800 : decode code 800 = .ok (.iload 5, 2) := by decide +kernel
theorem dL_law_802 : decode code 802 = .ok (.ifCond .ne 15, 3) := by decide +kernel
theorem dL_law_805 : decode code 805 = .ok (.aload_n 3, 1) := by decide +kernel
theorem dL_law_806 : decode code 806 = .ok (.iconst 0, 1) := by decide +kernel
theorem dL_law_807 : decode code 807 = .ok (.laload, 1) := by decide +kernel
theorem dL_law_808 : decode code 808 = .ok (.iload 6, 2) := by decide +kernel
theorem dL_law_810 : decode code 810 = .ok (.i2l, 1) := by decide +kernel
theorem dL_law_811 : decode code 811 = .ok (.lcmp, 1) := by decide +kernel
theorem dL_law_812 : decode code 812 = .ok (.ifCond .eq 5, 3) := by decide +kernel
theorem dL_law_815 : decode code 815 = .ok (.iconst 0, 1) := by decide +kernel
theorem dL_law_816 : decode code 816 = .ok (.ireturn, 1) := by decide +kernel
theorem dL_law_817 : decode code 817 = .ok (.goto 1073, 3) := by decide +kernel
theorem dL_law_820 : decode code 820 = .ok (.aload_n 1, 1) := by decide +kernel
theorem dL_law_821 : decode code 821 = .ok (.aload_n 0, 1) := by decide +kernel
theorem dL_law_822 : decode code 822 = .ok (.iload 4, 2) := by decide +kernel
theorem dL_law_824 : decode code 824 = .ok (.iconst 1, 1) := by decide +kernel
theorem dL_law_825 : decode code 825 = .ok (.iadd, 1) := by decide +kernel
theorem dL_law_826 : decode code 826 = .ok (.iaload, 1) := by decide +kernel
theorem dL_law_827 : decode code 827 = .ok (.aload_n 0, 1) := by decide +kernel
theorem dL_law_828 : decode code 828 = .ok (.iload 4, 2) := by decide +kernel
theorem dL_law_830 : decode code 830 = .ok (.iconst 2, 1) := by decide +kernel
theorem dL_law_831 : decode code 831 = .ok (.iadd, 1) := by decide +kernel
theorem dL_law_832 : decode code 832 = .ok (.iaload, 1) := by decide +kernel
theorem dL_law_833 : decode code 833 = .ok (.aload_n 0, 1) := by decide +kernel
theorem dL_law_834 : decode code 834 = .ok (.iload 4, 2) := by decide +kernel
theorem dL_law_836 : decode code 836 = .ok (.iconst 3, 1) := by decide +kernel
theorem dL_law_837 : decode code 837 = .ok (.iadd, 1) := by decide +kernel
theorem dL_law_838 : decode code 838 = .ok (.iaload, 1) := by decide +kernel
theorem dL_law_839 : decode code 839 = .ok (.aload_n 0, 1) := by decide +kernel
theorem dL_law_840 : decode code 840 = .ok (.iload 4, 2) := by decide +kernel
theorem dL_law_842 : decode code 842 = .ok (.iconst 4, 1) := by decide +kernel
theorem dL_law_843 : decode code 843 = .ok (.iadd, 1) := by decide +kernel
theorem dL_law_844 : decode code 844 = .ok (.iaload, 1) := by decide +kernel
theorem dL_law_845 : decode code 845 = .ok (.aload_n 3, 1) := by decide +kernel
theorem dL_law_846 : decode code 846 = .ok (.invokestatic 130, 3) := by decide +kernel
theorem dL_law_849 : decode code 849 = .ok (.istore 5, 2) := by decide +kernel
theorem dL_law_851 : decode code 851 = .ok (.aload_n 2, 1) := by decide +kernel
theorem dL_law_852 : decode code 852 = .ok (.aload_n 0, 1) := by decide +kernel
theorem dL_law_853 : decode code 853 = .ok (.iload 4, 2) := by decide +kernel
theorem dL_law_855 : decode code 855 = .ok (.iconst 1, 1) := by decide +kernel
theorem dL_law_856 : decode code 856 = .ok (.iadd, 1) := by decide +kernel
theorem dL_law_857 : decode code 857 = .ok (.iaload, 1) := by decide +kernel
theorem dL_law_858 : decode code 858 = .ok (.aload_n 0, 1) := by decide +kernel
theorem dL_law_859 : decode code 859 = .ok (.iload 4, 2) := by decide +kernel
theorem dL_law_861 : decode code 861 = .ok (.iconst 2, 1) := by decide +kernel
theorem dL_law_862 : decode code 862 = .ok (.iadd, 1) := by decide +kernel
theorem dL_law_863 : decode code 863 = .ok (.iaload, 1) := by decide +kernel
theorem dL_law_864 : decode code 864 = .ok (.aload_n 0, 1) := by decide +kernel
theorem dL_law_865 : decode code 865 = .ok (.iload 4, 2) := by decide +kernel
theorem dL_law_867 : decode code 867 = .ok (.iconst 3, 1) := by decide +kernel
theorem dL_law_868 : decode code 868 = .ok (.iadd, 1) := by decide +kernel
theorem dL_law_869 : decode code 869 = .ok (.iaload, 1) := by decide +kernel
theorem dL_law_870 : decode code 870 = .ok (.aload_n 0, 1) := by decide +kernel
theorem dL_law_871 : decode code 871 = .ok (.iload 4, 2) := by decide +kernel
theorem dL_law_873 : decode code 873 = .ok (.iconst 4, 1) := by decide +kernel
theorem dL_law_874 : decode code 874 = .ok (.iadd, 1) := by decide +kernel
theorem dL_law_875 : decode code 875 = .ok (.iaload, 1) := by decide +kernel
theorem dL_law_876 : decode code 876 = .ok (.invokevirtual 132, 3) := by decide +kernel
theorem dL_law_879 : decode code 879 = .ok (.istore 6, 2) := by decide +kernel
theorem dL_law_881 : decode code 881 = .ok (.aload_n 2, 1) := by decide +kernel
theorem dL_law_882 : decode code 882 = .ok (.invokevirtual 100, 3) := by decide +kernel
theorem dL_law_885 : decode code 885 = .ok (.iload 5, 2) := by decide +kernel
theorem dL_law_887 : decode code 887 = .ok (.if_icmp .eq 5, 3) := by decide +kernel
theorem dL_law_890 : decode code 890 = .ok (.iconst 0, 1) := by decide +kernel
theorem dL_law_891 : decode code 891 = .ok (.ireturn, 1) := by decide +kernel
theorem dL_law_892 : decode code 892 = .ok (.iload 5, 2) := by decide +kernel
theorem dL_law_894 : decode code 894 = .ok (.ifCond .ne 15, 3) := by decide +kernel
theorem dL_law_897 : decode code 897 = .ok (.aload_n 3, 1) := by decide +kernel
theorem dL_law_898 : decode code 898 = .ok (.iconst 0, 1) := by decide +kernel
theorem dL_law_899 : decode code 899 = .ok (.laload, 1) := by decide +kernel
theorem dL_law_900 : decode code 900 = .ok (.iload 6, 2) := by decide +kernel
theorem dL_law_902 : decode code 902 = .ok (.i2l, 1) := by decide +kernel
theorem dL_law_903 : decode code 903 = .ok (.lcmp, 1) := by decide +kernel
theorem dL_law_904 : decode code 904 = .ok (.ifCond .eq 5, 3) := by decide +kernel
theorem dL_law_907 : decode code 907 = .ok (.iconst 0, 1) := by decide +kernel
theorem dL_law_908 : decode code 908 = .ok (.ireturn, 1) := by decide +kernel
theorem dL_law_909 : decode code 909 = .ok (.goto 981, 3) := by decide +kernel
theorem dL_law_912 : decode code 912 = .ok (.aload_n 1, 1) := by decide +kernel
theorem dL_law_913 : decode code 913 = .ok (.aload_n 0, 1) := by decide +kernel
theorem dL_law_914 : decode code 914 = .ok (.iload 4, 2) := by decide +kernel
theorem dL_law_916 : decode code 916 = .ok (.iconst 1, 1) := by decide +kernel
theorem dL_law_917 : decode code 917 = .ok (.iadd, 1) := by decide +kernel
theorem dL_law_918 : decode code 918 = .ok (.iaload, 1) := by decide +kernel
theorem dL_law_919 : decode code 919 = .ok (.aload_n 0, 1) := by decide +kernel
theorem dL_law_920 : decode code 920 = .ok (.iload 4, 2) := by decide +kernel
theorem dL_law_922 : decode code 922 = .ok (.iconst 2, 1) := by decide +kernel
theorem dL_law_923 : decode code 923 = .ok (.iadd, 1) := by decide +kernel
theorem dL_law_924 : decode code 924 = .ok (.iaload, 1) := by decide +kernel
theorem dL_law_925 : decode code 925 = .ok (.aload_n 0, 1) := by decide +kernel
theorem dL_law_926 : decode code 926 = .ok (.iload 4, 2) := by decide +kernel
theorem dL_law_928 : decode code 928 = .ok (.iconst 3, 1) := by decide +kernel
theorem dL_law_929 : decode code 929 = .ok (.iadd, 1) := by decide +kernel
theorem dL_law_930 : decode code 930 = .ok (.iaload, 1) := by decide +kernel
theorem dL_law_931 : decode code 931 = .ok (.aload_n 0, 1) := by decide +kernel
theorem dL_law_932 : decode code 932 = .ok (.iload 4, 2) := by decide +kernel
theorem dL_law_934 : decode code 934 = .ok (.iconst 4, 1) := by decide +kernel
theorem dL_law_935 : decode code 935 = .ok (.iadd, 1) := by decide +kernel
theorem dL_law_936 : decode code 936 = .ok (.iaload, 1) := by decide +kernel
theorem dL_law_937 : decode code 937 = .ok (.aload_n 0, 1) := by decide +kernel
theorem dL_law_938 : decode code 938 = .ok (.iload 4, 2) := by decide +kernel
theorem dL_law_940 : decode code 940 = .ok (.iconst 5, 1) := by decide +kernel
theorem dL_law_941 : decode code 941 = .ok (.iadd, 1) := by decide +kernel
theorem dL_law_942 : decode code 942 = .ok (.iaload, 1) := by decide +kernel
theorem dL_law_943 : decode code 943 = .ok (.aload_n 3, 1) := by decide +kernel
theorem dL_law_944 : decode code 944 = .ok (.invokestatic 133, 3) := by decide +kernel
theorem dL_law_947 : decode code 947 = .ok (.istore 5, 2) := by decide +kernel
theorem dL_law_949 : decode code 949 = .ok (.aload_n 2, 1) := by decide +kernel
theorem dL_law_950 : decode code 950 = .ok (.aload_n 0, 1) := by decide +kernel
theorem dL_law_951 : decode code 951 = .ok (.iload 4, 2) := by decide +kernel
theorem dL_law_953 : decode code 953 = .ok (.iconst 1, 1) := by decide +kernel
theorem dL_law_954 : decode code 954 = .ok (.iadd, 1) := by decide +kernel
theorem dL_law_955 : decode code 955 = .ok (.iaload, 1) := by decide +kernel
theorem dL_law_956 : decode code 956 = .ok (.aload_n 0, 1) := by decide +kernel
theorem dL_law_957 : decode code 957 = .ok (.iload 4, 2) := by decide +kernel
theorem dL_law_959 : decode code 959 = .ok (.iconst 2, 1) := by decide +kernel
theorem dL_law_960 : decode code 960 = .ok (.iadd, 1) := by decide +kernel
theorem dL_law_961 : decode code 961 = .ok (.iaload, 1) := by decide +kernel
theorem dL_law_962 : decode code 962 = .ok (.aload_n 0, 1) := by decide +kernel
theorem dL_law_963 : decode code 963 = .ok (.iload 4, 2) := by decide +kernel
theorem dL_law_965 : decode code 965 = .ok (.iconst 3, 1) := by decide +kernel
theorem dL_law_966 : decode code 966 = .ok (.iadd, 1) := by decide +kernel
theorem dL_law_967 : decode code 967 = .ok (.iaload, 1) := by decide +kernel
theorem dL_law_968 : decode code 968 = .ok (.aload_n 0, 1) := by decide +kernel
theorem dL_law_969 : decode code 969 = .ok (.iload 4, 2) := by decide +kernel
theorem dL_law_971 : decode code 971 = .ok (.iconst 4, 1) := by decide +kernel
theorem dL_law_972 : decode code 972 = .ok (.iadd, 1) := by decide +kernel
theorem dL_law_973 : decode code 973 = .ok (.iaload, 1) := by decide +kernel
theorem dL_law_974 : decode code 974 = .ok (.aload_n 0, 1) := by decide +kernel
theorem dL_law_975 : decode code 975 = .ok (.iload 4, 2) := by decide +kernel
theorem dL_law_977 : decode code 977 = .ok (.iconst 5, 1) := by decide +kernel
theorem dL_law_978 : decode code 978 = .ok (.iadd, 1) := by decide +kernel
theorem dL_law_979 : decode code 979 = .ok (.iaload, 1) := by decide +kernel
theorem dL_law_980 : decode code 980 = .ok (.invokevirtual 135, 3) := by decide +kernel
theorem dL_law_983 : decode code 983 = .ok (.istore 6, 2) := by decide +kernel
theorem dL_law_985 : decode code 985 = .ok (.aload_n 2, 1) := by decide +kernel
theorem dL_law_986 : decode code 986 = .ok (.invokevirtual 100, 3) := by decide +kernel
theorem dL_law_989 : decode code 989 = .ok (.iload 5, 2) := by decide +kernel
theorem dL_law_991 : decode code 991 = .ok (.if_icmp .eq 5, 3) := by decide +kernel
theorem dL_law_994 : decode code 994 = .ok (.iconst 0, 1) := by decide +kernel
theorem dL_law_995 : decode code 995 = .ok (.ireturn, 1) := by decide +kernel
theorem dL_law_996 : decode code 996 = .ok (.iload 5, 2) := by decide +kernel
theorem dL_law_998 : decode code 998 = .ok (.ifCond .ne 22, 3) := by decide +kernel
theorem dL_law_1001 : decode code 1001 = .ok (.aload_n 3, 1) := by decide +kernel
theorem dL_law_1002 : decode code 1002 = .ok (.iconst 0, 1) := by decide +kernel
theorem dL_law_1003 : decode code 1003 = .ok (.laload, 1) := by decide +kernel
theorem dL_law_1004 : decode code 1004 = .ok (.iload 6, 2) := by decide +kernel
theorem dL_law_1006 : decode code 1006 = .ok (.ifCond .eq 7, 3) := by decide +kernel
theorem dL_law_1009 : decode code 1009 = .ok (.lconst 1, 1) := by decide +kernel
theorem dL_law_1010 : decode code 1010 = .ok (.goto 4, 3) := by decide +kernel
theorem dL_law_1013 : decode code 1013 = .ok (.lconst 0, 1) := by decide +kernel
theorem dL_law_1014 : decode code 1014 = .ok (.lcmp, 1) := by decide +kernel
theorem dL_law_1015 : decode code 1015 = .ok (.ifCond .eq 5, 3) := by decide +kernel
theorem dL_law_1018 : decode code 1018 = .ok (.iconst 0, 1) := by decide +kernel
