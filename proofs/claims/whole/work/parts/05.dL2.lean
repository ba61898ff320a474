theorem dL_law_559 : decode code 559 = .ok (.iadd, 1) := by decide +kernel
theorem dL_law_560 : decode code 560 = .ok (.iaload, 1) := by decide +kernel
theorem dL_law_561 : decode code 561 = .ok (.aload_n 0, 1) := by decide +kernel
theorem dL_law_562 : decode code 562 = .ok (.iload 4, 2) := by decide +kernel
theorem dL_law_564 : decode code 564 = .ok (.iconst 2, 1) := by decide +kernel
theorem dL_law_565 : decode code 565 = .ok (.iadd, 1) := by decide +kernel
theorem dL_law_566 : decode code 566 = .ok (.iaload, 1) := by decide +kernel
theorem dL_law_567 : decode code 567 = .ok (.invokevirtual 115, 3) := by decide +kernel
theorem dL_law_570 : decode code 570 = .ok (.istore 6, 2) := by decide +kernel
theorem dL_law_572 : decode code 572 = .ok (.aload_n 2, 1) := by decide +kernel
theorem dL_law_573 : decode code 573 = .ok (.invokevirtual 92, 3) := by decide +kernel
theorem dL_law_576 : decode code 576 = .ok (.iload 5, 2) := by decide +kernel
theorem dL_law_578 : decode code 578 = .ok (.if_icmp .eq 5, 3) := by decide +kernel
theorem dL_law_581 : decode code 581 = .ok (.iconst 0, 1) := by decide +kernel
theorem dL_law_582 : decode code 582 = .ok (.ireturn, 1) := by decide +kernel
theorem dL_law_583 : decode code 583 = .ok (.iload 5, 2) := by decide +kernel
theorem dL_law_585 : decode code 585 = .ok (.ifCond .ne 15, 3) := by decide +kernel
theorem dL_law_588 : decode code 588 = .ok (.aload_n 3, 1) := by decide +kernel
theorem dL_law_589 : decode code 589 = .ok (.iconst 0, 1) := by decide +kernel
theorem dL_law_590 : decode code 590 = .ok (.laload, 1) := by decide +kernel
theorem dL_law_591 : decode code 591 = .ok (.iload 6, 2) := by decide +kernel
theorem dL_law_593 : decode code 593 = .ok (.i2l, 1) := by decide +kernel
theorem dL_law_594 : decode code 594 = .ok (.lcmp, 1) := by decide +kernel
theorem dL_law_595 : decode code 595 = .ok (.ifCond .eq 5, 3) := by decide +kernel
theorem dL_law_598 : decode code 598 = .ok (.iconst 0, 1) := by decide +kernel
theorem dL_law_599 : decode code 599 = .ok (.ireturn, 1) := by decide +kernel
theorem dL_law_600 : decode code 600 = .ok (.goto 847, 3) := by decide +kernel
theorem dL_law_603 : decode code 603 = .ok (.aload_n 1, 1) := by decide +kernel
theorem dL_law_604 : decode code 604 = .ok (.aload_n 0, 1) := by decide +kernel
theorem dL_law_605 : decode code 605 = .ok (.iload 4, 2) := by decide +kernel
theorem dL_law_607 : decode code 607 = .ok (.iconst 1, 1) := by decide +kernel
theorem dL_law_608 : decode code 608 = .ok (.iadd, 1) := by decide +kernel
theorem dL_law_609 : decode code 609 = .ok (.iaload, 1) := by decide +kernel
theorem dL_law_610 : decode code 610 = .ok (.aload_n 3, 1) := by decide +kernel
theorem dL_law_611 : decode code 611 = .ok (.invokestatic 116, 3) := by decide +kernel
theorem dL_law_614 : decode code 614 = .ok (.istore 5, 2) := by decide +kernel
theorem dL_law_616 : decode code 616 = .ok (.aload_n 2, 1) := by decide +kernel
theorem dL_law_617 : decode code 617 = .ok (.aload_n 0, 1) := by decide +kernel
theorem dL_law_618 : decode code 618 = .ok (.iload 4, 2) := by decide +kernel
theorem dL_law_620 : decode code 620 = .ok (.iconst 1, 1) := by decide +kernel
theorem dL_law_621 : decode code 621 = .ok (.iadd, 1) := by decide +kernel
theorem dL_law_622 : decode code 622 = .ok (.iaload, 1) := by decide +kernel
theorem dL_law_623 : decode code 623 = .ok (.invokevirtual 119, 3) := by decide +kernel
theorem dL_law_626 : decode code 626 = .ok (.istore 6, 2) := by decide +kernel
theorem dL_law_628 : decode code 628 = .ok (.aload_n 2, 1) := by decide +kernel
theorem dL_law_629 : decode code 629 = .ok (.invokevirtual 92, 3) := by decide +kernel
theorem dL_law_632 : decode code 632 = .ok (.iload 5, 2) := by decide +kernel
theorem dL_law_634 : decode code 634 = .ok (.if_icmp .eq 5, 3) := by decide +kernel
theorem dL_law_637 : decode code 637 = .ok (.iconst 0, 1) := by decide +kernel
theorem dL_law_638 : decode code 638 = .ok (.ireturn, 1) := by decide +kernel
theorem dL_law_639 : decode code 639 = .ok (.iload 5, 2) := by decide +kernel
theorem dL_law_641 : decode code 641 = .ok (.ifCond .ne 15, 3) := by decide +kernel
theorem dL_law_644 : decode code 644 = .ok (.aload_n 3, 1) := by decide +kernel
theorem dL_law_645 : decode code 645 = .ok (.iconst 0, 1) := by decide +kernel
theorem dL_law_646 : decode code 646 = .ok (.laload, 1) := by decide +kernel
theorem dL_law_647 : decode code 647 = .ok (.iload 6, 2) := by decide +kernel
theorem dL_law_649 : decode code 649 = .ok (.i2l, 1) := by decide +kernel
theorem dL_law_650 : decode code 650 = .ok (.lcmp, 1) := by decide +kernel
theorem dL_law_651 : decode code 651 = .ok (.ifCond .eq 5, 3) := by decide +kernel
theorem dL_law_654 : decode code 654 = .ok (.iconst 0, 1) := by decide +kernel
theorem dL_law_655 : decode code 655 = .ok (.ireturn, 1) := by decide +kernel
theorem dL_law_656 : decode code 656 = .ok (.goto 791, 3) := by decide +kernel
theorem dL_law_659 : decode code 659 = .ok (.aload_n 1, 1) := by decide +kernel
theorem dL_law_660 : decode code 660 = .ok (.aload_n 0, 1) := by decide +kernel
theorem dL_law_661 : decode code 661 = .ok (.iload 4, 2) := by decide +kernel
theorem dL_law_663 : decode code 663 = .ok (.iconst 1, 1) := by decide +kernel
theorem dL_law_664 : decode code 664 = .ok (.iadd, 1) := by decide +kernel
theorem dL_law_665 : decode code 665 = .ok (.iaload, 1) := by decide +kernel
theorem dL_law_666 : decode code 666 = .ok (.aload_n 0, 1) := by decide +kernel
theorem dL_law_667 : decode code 667 = .ok (.iload 4, 2) := by decide +kernel
theorem dL_law_669 : decode code 669 = .ok (.iconst 2, 1) := by decide +kernel
theorem dL_law_670 : decode code 670 = .ok (.iadd, 1) := by decide +kernel
theorem dL_law_671 : decode code 671 = .ok (.iaload, 1) := by decide +kernel
theorem dL_law_672 : decode code 672 = .ok (.aload_n 0, 1) := by decide +kernel
theorem dL_law_673 : decode code 673 = .ok (.iload 4, 2) := by decide +kernel
theorem dL_law_675 : decode code 675 = .ok (.iconst 3, 1) := by decide +kernel
theorem dL_law_676 : decode code 676 = .ok (.iadd, 1) := by decide +kernel
theorem dL_law_677 : decode code 677 = .ok (.iaload, 1) := by decide +kernel
theorem dL_law_678 : decode code 678 = .ok (.aload_n 3, 1) := by decide +kernel
theorem dL_law_679 : decode code 679 = .ok (.invokestatic 120, 3) := by decide +kernel
theorem dL_law_682 : decode code 682 = .ok (.istore 5, 2) := by decide +kernel
theorem dL_law_684 : decode code 684 = .ok (.aload_n 2, 1) := by decide +kernel
theorem dL_law_685 : decode code 685 = .ok (.aload_n 0, 1) := by decide +kernel
theorem dL_law_686 : decode code 686 = .ok (.iload 4, 2) := by decide +kernel
theorem dL_law_688 : decode code 688 = .ok (.iconst 1, 1) := by decide +kernel
theorem dL_law_689 : decode code 689 = .ok (.iadd, 1) := by decide +kernel
theorem dL_law_690 : decode code 690 = .ok (.iaload, 1) := by decide +kernel
theorem dL_law_691 : decode code 691 = .ok (.aload_n 0, 1) := by decide +kernel
theorem dL_law_692 : decode code 692 = .ok (.iload 4, 2) := by decide +kernel
theorem dL_law_694 : decode code 694 = .ok (.iconst 2, 1) := by decide +kernel
theorem dL_law_695 : decode code 695 = .ok (.iadd, 1) := by decide +kernel
theorem dL_law_696 : decode code 696 = .ok (.iaload, 1) := by decide +kernel
theorem dL_law_697 : decode code 697 = .ok (.aload_n 0, 1) := by decide +kernel
theorem dL_law_698 : decode code 698 = .ok (.iload 4, 2) := by decide +kernel
theorem dL_law_700 : decode code 700 = .ok (.iconst 3, 1) := by decide +kernel
theorem dL_law_701 : decode code 701 = .ok (.iadd, 1) := by decide +kernel
theorem dL_law_702 : decode code 702 = .ok (.iaload, 1) := by decide +kernel
theorem dL_law_703 : decode code 703 = .ok (.invokevirtual 123, 3) := by decide +kernel
theorem dL_law_706 : decode code 706 = .ok (.istore 6, 2) := by decide +kernel
theorem dL_law_708 : decode code 708 = .ok (.aload_n 2, 1) := by decide +kernel
theorem dL_law_709 : decode code 709 = .ok (.invokevirtual 92, 3) := by decide +kernel
theorem dL_law_712 : decode code 712 = .ok (.iload 5, 2) := by decide +kernel
theorem dL_law_714 : decode code 714 = .ok (.if_icmp .eq 5, 3) := by decide +kernel
theorem dL_law_717 : decode code 717 = .ok (.iconst 0, 1) := by decide +kernel
theorem dL_law_718 : decode code 718 = .ok (.ireturn, 1) := by decide +kernel
theorem dL_law_719 : decode code 719 = .ok (.iload 5, 2) := by decide +kernel
theorem dL_law_721 : decode code 721 = .ok (.ifCond .ne 15, 3) := by decide +kernel
theorem dL_law_724 : decode code 724 = .ok (.aload_n 3, 1) := by decide +kernel
theorem dL_law_725 : decode code 725 = .ok (.iconst 0, 1) := by decide +kernel
theorem dL_law_726 : decode code 726 = .ok (.laload, 1) := by decide +kernel
theorem dL_law_727 : decode code 727 = .ok (.iload 6, 2) := by decide +kernel
theorem dL_law_729 : decode code 729 = .ok (.i2l, 1) := by decide +kernel
theorem dL_law_730 : decode code 730 = .ok (.lcmp, 1) := by decide +kernel
theorem dL_law_731 : decode code 731 = .ok (.ifCond .eq 5, 3) := by decide +kernel
theorem dL_law_734 : decode code 734 = .ok (.iconst 0, 1) := by decide +kernel
theorem dL_law_735 : decode code 735 = .ok (.ireturn, 1) := by decide +kernel
theorem dL_law_736 : decode code 736 = .ok (.goto 711, 3) := by decide +kernel
theorem dL_law_739 : decode code 739 = .ok (.aload_n 1, 1) := by decide +kernel
theorem dL_law_740 : decode code 740 = .ok (.aload_n 0, 1) := by decide +kernel
theorem dL_law_741 : decode code 741 = .ok (.iload 4, 2) := by decide +kernel
theorem dL_law_743 : decode code 743 = .ok (.iconst 1, 1) := by decide +kernel
theorem dL_law_744 : decode code 744 = .ok (.iadd, 1) := by decide +kernel
theorem dL_law_745 : decode code 745 = .ok (.iaload, 1) := by decide +kernel
theorem dL_law_746 : decode code 746 = .ok (.aload_n 3, 1) := by decide +kernel
theorem dL_law_747 : decode code 747 = .ok (.invokestatic 124, 3) := by decide +kernel
theorem dL_law_750 : decode code 750 = .ok (.istore 5, 2) := by decide +kernel
theorem dL_law_752 : decode code 752 = .ok (.aload_n 2, 1) := by decide +kernel
theorem dL_law_753 : decode code 753 = .ok (.aload_n 0, 1) := by decide +kernel
theorem dL_law_754 : decode code 754 = .ok (.iload 4, 2) := by decide +kernel
theorem dL_law_756 : decode code 756 = .ok (.iconst 1, 1) := by decide +kernel
theorem dL_law_757 : decode code 757 = .ok (.iadd, 1) := by decide +kernel
theorem dL_law_758 : decode code 758 = .ok (.iaload, 1) := by decide +kernel
theorem dL_law_759 : decode code 759 = .ok (.invokevirtual 126, 3) := by decide +kernel
theorem dL_law_762 : decode code 762 = .ok (.istore 6, 2) := by decide +kernel
theorem dL_law_764 : decode code 764 = .ok (.aload_n 2, 1) := by decide +kernel
theorem dL_law_765 : decode code 765 = .ok (.invokevirtual 92, 3) := by decide +kernel
theorem dL_law_768 : decode code 768 = .ok (.iload 5, 2) := by decide +kernel
theorem dL_law_770 : decode code 770 = .ok (.if_icmp .eq 5, 3) := by decide +kernel
theorem dL_law_773 : decode code 773 = .ok (.iconst 0, 1) := by decide +kernel
theorem dL_law_774 : decode code 774 = .ok (.ireturn, 1) := by decide +kernel
theorem dL_law_775 : decode code 775 = .ok (.iload 5, 2) := by decide +kernel
theorem dL_law_777 : decode code 777 = .ok (.ifCond .ne 15, 3) := by decide +kernel
theorem dL_law_780 : decode code 780 = .ok (.aload_n 3, 1) := by decide +kernel
theorem dL_law_781 : decode code 781 = .ok (.iconst 0, 1) := by decide +kernel
theorem dL_law_782 : decode code 782 = .ok (.laload, 1) := by decide +kernel
theorem dL_law_783 : decode code 783 = .ok (.iload 6, 2) := by decide +kernel
theorem dL_law_785 : decode code 785 = .ok (.i2l, 1) := by decide +kernel
theorem dL_law_786 : decode code 786 = .ok (.lcmp, 1) := by decide +kernel
theorem dL_law_787 : decode code 787 = .ok (.ifCond .eq 5, 3) := by decide +kernel
theorem dL_law_790 : decode code 790 = .ok (.iconst 0, 1) := by decide +kernel
theorem dL_law_791 : decode code 791 = .ok (.ireturn, 1) := by decide +kernel
theorem dL_law_792 : decode code 792 = .ok (.goto 655, 3) := by decide +kernel
theorem dL_law_795 : decode code 795 = .ok (.aload_n 1, 1) := by decide +kernel
theorem dL_law_796 : decode code 796 = .ok (.aload_n 0, 1) := by decide +kernel
theorem dL_law_797 : decode code 797 = .ok (.iload 4, 2) := by decide +kernel
theorem dL_law_799 : decode code 799 = .ok (.iconst 1, 1) := by decide +kernel
theorem dL_law_800 : decode code 800 = .ok (.iadd, 1) := by decide +kernel
theorem dL_law_801 : decode code 801 = .ok (.iaload, 1) := by decide +kernel
theorem dL_law_802 : decode code 802 = .ok (.aload_n 3, 1) := by decide +kernel
theorem dL_law_803 : decode code 803 = .ok (.invokestatic 127, 3) := by decide +kernel
theorem dL_law_806 : decode code 806 = .ok (.istore 5, 2) := by decide +kernel
theorem dL_law_808 : decode code 808 = .ok (.aload_n 2, 1) := by decide +kernel
theorem dL_law_809 : decode code 809 = .ok (.aload_n 0, 1) := by decide +kernel
theorem dL_law_810 : decode code 810 = .ok (.iload 4, 2) := by decide +kernel
theorem dL_law_812 : decode code 812 = .ok (.iconst 1, 1) := by decide +kernel
theorem dL_law_813 : decode code 813 = .ok (.iadd, 1) := by decide +kernel
theorem dL_law_814 : decode code 814 = .ok (.iaload, 1) := by decide +kernel
theorem dL_law_815 : decode code 815 = .ok (.invokevirtual 129, 3) := by decide +kernel
theorem dL_law_818 : decode code 818 = .ok (.istore 6, 2) := by decide +kernel
theorem dL_law_820 : decode code 820 = .ok (.aload_n 2, 1) := by decide +kernel
theorem dL_law_821 : decode code 821 = .ok (.invokevirtual 92, 3) := by decide +kernel
theorem dL_law_824 : decode code 824 = .ok (.iload 5, 2) := by decide +kernel
theorem dL_law_826 : decode code 826 = .ok (.if_icmp .eq 5, 3) := by decide +kernel
theorem dL_law_829 : decode code 829 = .ok (.iconst 0, 1) := by decide +kernel
theorem dL_law_830 : decode code 830 = .ok (.ireturn, 1) := by decide +kernel
theorem dL_law_831 : decode code 831 = .ok (.iload 5, 2) := by decide +kernel
theorem dL_law_833 : decode code 833 = .ok (.ifCond .ne 15, 3) := by decide +kernel
theorem dL_law_836 : decode code 836 = .ok (.aload_n 3, 1) := by decide +kernel
theorem dL_law_837 : decode code 837 = .ok (.iconst 0, 1) := by decide +kernel
theorem dL_law_838 : decode code 838 = .ok (.laload, 1) := by decide +kernel
theorem dL_law_839 : decode code 839 = .ok (.iload 6, 2) := by decide +kernel
theorem dL_law_841 : decode code 841 = .ok (.i2l, 1) := by decide +kernel
theorem dL_law_842 : decode code 842 = .ok (.lcmp, 1) := by decide +kernel
theorem dL_law_843 : decode code 843 = .ok (.ifCond .eq 5, 3) := by decide +kernel
theorem dL_law_846 : decode code 846 = .ok (.iconst 0, 1) := by decide +kernel
theorem dL_law_847 : decode code 847 = .ok (.ireturn, 1) := by decide +kernel
theorem dL_law_848 : decode code 848 = .ok (.goto 599, 3) := by decide +kernel
theorem dL_law_851 : decode code 851 = .ok (.aload_n 1, 1) := by decide +kernel
theorem dL_law_852 : decode code 852 = .ok (.aload_n 0, 1) := by decide +kernel
theorem dL_law_853 : decode code 853 = .ok (.iload 4, 2) := by decide +kernel
theorem dL_law_855 : decode code 855 = .ok (.iconst 1, 1) := by decide +kernel
theorem dL_law_856 : decode code 856 = .ok (.iadd, 1) := by decide +kernel
theorem dL_law_857 : decode code 857 = .ok (.iaload, 1) := by decide +kernel
theorem dL_law_858 : decode code 858 = .ok (.aload_n 0, 1) := by decide +kernel
theorem dL_law_859 : decode code 859 = .ok (.iload 4, 2) := by decide +kernel
theorem dL_law_861 : decode code 861 = .ok (.iconst 2, 1) := by decide +kernel
theorem dL_law_862 : decode code 862 = .ok (.iadd, 1) := by decide +kernel
theorem dL_law_863 : decode code 863 = .ok (.iaload, 1) := by decide +kernel
theorem dL_law_864 : decode code 864 = .ok (.aload_n 0, 1) := by decide +kernel
theorem dL_law_865 : decode code 865 = .ok (.iload 4, 2) := by decide +kernel
theorem dL_law_867 : decode code 867 = .ok (.iconst 3, 1) := by decide +kernel
theorem dL_law_868 : decode code 868 = .ok (.iadd, 1) := by decide +kernel
theorem dL_law_869 : decode code 869 = .ok (.iaload, 1) := by decide +kernel
theorem dL_law_870 : decode code 870 = .ok (.aload_n 3, 1) := by decide +kernel
theorem dL_law_871 : decode code 871 = .ok (.invokestatic 130, 3) := by decide +kernel
theorem dL_law_874 : decode code 874 = .ok (.istore 5, 2) := by decide +kernel
theorem dL_law_876 : decode code 876 = .ok (.aload_n 2, 1) := by decide +kernel
theorem dL_law_877 : decode code 877 = .ok (.aload_n 0, 1) := by decide +kernel
theorem dL_law_878 : decode code 878 = .ok (.iload 4, 2) := by decide +kernel
theorem dL_law_880 : decode code 880 = .ok (.iconst 1, 1) := by decide +kernel
theorem dL_law_881 : decode code 881 = .ok (.iadd, 1) := by decide +kernel
theorem dL_law_882 : decode code 882 = .ok (.iaload, 1) := by decide +kernel
theorem dL_law_883 : decode code 883 = .ok (.aload_n 0, 1) := by decide +kernel
theorem dL_law_884 : decode code 884 = .ok (.iload 4, 2) := by decide +kernel
theorem dL_law_886 : decode code 886 = .ok (.iconst 2, 1) := by decide +kernel
theorem dL_law_887 : decode code 887 = .ok (.iadd, 1) := by decide +kernel
theorem dL_law_888 : decode code 888 = .ok (.iaload, 1) := by decide +kernel
theorem dL_law_889 : decode code 889 = .ok (.aload_n 0, 1) := by decide +kernel
theorem dL_law_890 : decode code 890 = .ok (.iload 4, 2) := by decide +kernel
theorem dL_law_892 : decode code 892 = .ok (.iconst 3, 1) := by decide +kernel
theorem dL_law_893 : decode code 893 = .ok (.iadd, 1) := by decide +kernel
theorem dL_law_894 : decode code 894 = .ok (.iaload, 1) := by decide +kernel
theorem dL_law_895 : decode code 895 = .ok (.invokevirtual 132, 3) := by decide +kernel
theorem dL_law_898 : decode code 898 = .ok (.istore 6, 2) := by decide +kernel
theorem dL_law_900 : decode code 900 = .ok (.aload_n 2, 1) := by decide +kernel
theorem dL_law_901 : decode code 901 = .ok (.invokevirtual 92, 3) := by decide +kernel
theorem dL_law_904 : decode code 904 = .ok (.iload 5, 2) := by decide +kernel
theorem dL_law_906 : decode code 906 = .ok (.if_icmp .eq 5, 3) := by decide +kernel
theorem dL_law_909 : decode code 909 = .ok (.iconst 0, 1) := by decide +kernel
theorem dL_law_910 : decode code 910 = .ok (.ireturn, 1) := by decide +kernel
theorem dL_law_911 : decode code 911 = .ok (.iload 5, 2) := by decide +kernel
theorem dL_law_913 : decode code 913 = .ok (.ifCond .ne 15, 3) := by decide +kernel
theorem dL_law_916 : decode code 916 = .ok (.aload_n 3, 1) := by decide +kernel
theorem dL_law_917 : decode code 917 = .ok (.iconst 0, 1) := by decide +kernel
theorem dL_law_918 : decode code 918 = .ok (.laload, 1) := by decide +kernel
theorem dL_law_919 : decode code 919 = .ok (.iload 6, 2) := by decide +kernel
theorem dL_law_921 : decode code 921 = .ok (.i2l, 1) := by decide +kernel
theorem dL_law_922 : decode code 922 = .ok (.lcmp, 1) := by decide +kernel
theorem dL_law_923 : decode code 923 = .ok (.ifCond .eq 5, 3) := by decide +kernel
theorem dL_law_926 : decode code 926 = .ok (.iconst 0, 1) := by decide +kernel
theorem dL_law_927 : decode code 927 = .ok (.ireturn, 1) := by decide +kernel
theorem dL_law_928 : decode code 928 = .ok (.goto 519, 3) := by decide +kernel
theorem dL_law_931 : decode code 931 = .ok (.aload_n 1, 1) := by decide +kernel
theorem dL_law_932 : decode code 932 = .ok (.aload_n 0, 1) := by decide +kernel
theorem dL_law_933 : decode code 933 = .ok (.iload 4, 2) := by decide +kernel
theorem dL_law_935 : decode code 935 = .ok (.iconst 1, 1) := by decide +kernel
theorem dL_law_936 : decode code 936 = .ok (.iadd, 1) := by decide +kernel
theorem dL_law_937 : decode code 937 = .ok (.iaload, 1) := by decide +kernel
theorem dL_law_938 : decode code 938 = .ok (.aload_n 0, 1) := by decide +kernel
theorem dL_law_939 : decode code 939 = .ok (.iload 4, 2) := by decide +kernel
theorem dL_law_941 : decode code 941 = .ok (.iconst 2, 1) := by decide +kernel
theorem dL_law_942 : decode code 942 = .ok (.iadd, 1) := by decide +kernel
theorem dL_law_943 : decode code 943 = .ok (.iaload, 1) := by decide +kernel
theorem dL_law_944 : decode code 944 = .ok (.aload_n 3, 1) := by decide +kernel
theorem dL_law_945 : decode code 945 = .ok (.invokestatic 133, 3) := by decide +kernel
theorem dL_law_948 : decode code 948 = .ok (.istore 5, 2) := by decide +kernel
theorem dL_law_950 : decode code 950 = .ok (.aload_n 2, 1) := by decide +kernel
theorem dL_law_951 : decode code 951 = .ok (.aload_n 0, 1) := by decide +kernel
theorem dL_law_952 : decode code 952 = .ok (.iload 4, 2) := by decide +kernel
theorem dL_law_954 : decode code 954 = .ok (.iconst 1, 1) := by decide +kernel
theorem dL_law_955 : decode code 955 = .ok (.iadd, 1) := by decide +kernel
theorem dL_law_956 : decode code 956 = .ok (.iaload, 1) := by decide +kernel
theorem dL_law_957 : decode code 957 = .ok (.aload_n 0, 1) := by decide +kernel
theorem dL_law_958 : decode code 958 = .ok (.iload 4, 2) := by decide +kernel
theorem dL_law_960 : decode code 960 = .ok (.iconst 2, 1) := by decide +kernel
theorem dL_law_961 : decode code 961 = .ok (.iadd, 1) := by decide +kernel
theorem dL_law_962 : decode code 962 = .ok (.iaload, 1) := by decide +kernel
theorem dL_law_963 : decode code 963 = .ok (.invokevirtual 135, 3) := by decide +kernel
theorem dL_law_966 : decode code 966 = .ok (.istore 6, 2) := by decide +kernel
theorem dL_law_968 : decode code 968 = .ok (.aload_n 2, 1) := by decide +kernel
theorem dL_law_969 : decode code 969 = .ok (.invokevirtual 92, 3) := by decide +kernel
theorem dL_law_972 : decode code 972 = .ok (.iload 5, 2) := by decide +kernel
theorem dL_law_974 : decode code 974 = .ok (.if_icmp .eq 5, 3) := by decide +kernel
theorem dL_law_977 : decode code 977 = .ok (.iconst 0, 1) := by decide +kernel
theorem dL_law_978 : decode code 978 = .ok (.ireturn, 1) := by decide +kernel
theorem dL_law_979 : decode code 979 = .ok (.iload 5, 2) := by decide +kernel
theorem dL_law_981 : decode code 981 = .ok (.ifCond .ne 15, 3) := by decide +kernel
theorem dL_law_984 : decode code 984 = .ok (.aload_n 3, 1) := by decide +kernel
theorem dL_law_985 : decode code 985 = .ok (.iconst 0, 1) := by decide +kernel
theorem dL_law_986 : decode code 986 = .ok (.laload, 1) := by decide +kernel
theorem dL_law_987 : decode code 987 = .ok (.iload 6, 2) := by decide +kernel
theorem dL_law_989 : decode code 989 = .ok (.i2l, 1) := by decide +kernel
theorem dL_law_990 : decode code 990 = .ok (.lcmp, 1) := by decide +kernel
theorem dL_law_991 : decode code 991 = .ok (.ifCond .eq 5, 3) := by decide +kernel
theorem dL_law_994 : decode code 994 = .ok (.iconst 0, 1) := by decide +kernel
theorem dL_law_995 : decode code 995 = .ok (.ireturn, 1) := by decide +kernel
theorem dL_law_996 : decode code 996 = .ok (.goto 451, 3) := by decide +kernel
theorem dL_law_999 : decode code 999 = .ok (.aload_n 1, 1) := by decide +kernel
theorem dL_law_1000 : decode code 1000 = .ok (.aload_n 0, 1) := by decide +kernel
theorem dL_law_1001 : decode code 1001 = .ok (.iload 4, 2) := by decide +kernel
theorem dL_law_1003 : decode code 1003 = .ok (.iconst 1, 1) := by decide +kernel
theorem dL_law_1004 : decode code 1004 = .ok (.iadd, 1) := by decide +kernel
theorem dL_law_1005 : decode code 1005 = .ok (.iaload, 1) := by decide +kernel
theorem dL_law_1006 : decode code 1006 = .ok (.aload_n 0, 1) := by decide +kernel
theorem dL_law_1007 : decode code 1007 = .ok (.iload 4, 2) := by decide +kernel
theorem dL_law_1009 : decode code 1009 = .ok (.iconst 2, 1) := by decide +kernel
theorem dL_law_1010 : decode code 1010 = .ok (.iadd, 1) := by decide +kernel
theorem dL_law_1011 : decode code 1011 = .ok (.iaload, 1) := by decide +kernel
theorem dL_law_1012 : decode code 1012 = .ok (.aload_n 0, 1) := by decide +kernel
theorem dL_law_1013 : decode code 1013 = .ok (.iload 4, 2) := by decide +kernel
