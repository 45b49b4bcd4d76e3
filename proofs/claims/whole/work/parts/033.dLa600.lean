theorem d_La_law_657 : decode code 657 = .ok (.aload_n 0, 1) := by decide +kernel
theorem d_La_law_658 : decode code 658 = .ok (.iload 4, 2) := by decide +kernel
theorem d_La_law_660 : decode code 660 = .ok (.iconst 1, 1) := by decide +kernel
theorem d_La_law_661 : decode code 661 = .ok (.iadd, 1) := by decide +kernel
theorem d_La_law_662 : decode code 662 = .ok (.iaload, 1) := by decide +kernel
theorem d_La_law_663 : decode code 663 = .ok (.aload_n 3, 1) := by decide +kernel
theorem d_La_law_664 : decode code 664 = .ok (.invokestatic 102, 3) := by decide +kernel
theorem d_La_law_667 : decode code 667 = .ok (.istore 5, 2) := by decide +kernel
theorem d_La_law_669 : decode code 669 = .ok (.aload_n 2, 1) := by decide +kernel
theorem d_La_law_670 : decode code 670 = .ok (.aload_n 0, 1) := by decide +kernel
theorem d_La_law_671 : decode code 671 = .ok (.iload 4, 2) := by decide +kernel
theorem d_La_law_673 : decode code 673 = .ok (.iconst 1, 1) := by decide +kernel
theorem d_La_law_674 : decode code 674 = .ok (.iadd, 1) := by decide +kernel
theorem d_La_law_675 : decode code 675 = .ok (.iaload, 1) := by decide +kernel
theorem d_La_law_676 : decode code 676 = .ok (.invokevirtual 104, 3) := by decide +kernel
theorem d_La_law_679 : decode code 679 = .ok (.istore 6, 2) := by decide +kernel
theorem d_La_law_681 : decode code 681 = .ok (.aload_n 2, 1) := by decide +kernel
theorem d_La_law_682 : decode code 682 = .ok (.invokevirtual 75, 3) := by decide +kernel
theorem d_La_law_685 : decode code 685 = .ok (.iload 5, 2) := by decide +kernel
theorem d_La_law_687 : decode code 687 = .ok (.if_icmp .eq 5, 3) := by decide +kernel
theorem d_La_law_690 : decode code 690 = .ok (.iconst 0, 1) := by decide +kernel
theorem d_La_law_691 : decode code 691 = .ok (.ireturn, 1) := by decide +kernel
theorem d_La_law_692 : decode code 692 = .ok (.iload 5, 2) := by decide +kernel
theorem d_La_law_694 : decode code 694 = .ok (.ifCond .ne 15, 3) := by decide +kernel
theorem d_La_law_697 : decode code 697 = .ok (.aload_n 3, 1) := by decide +kernel
theorem d_La_law_698 : decode code 698 = .ok (.iconst 0, 1) := by decide +kernel
theorem d_La_law_699 : decode code 699 = .ok (.laload, 1) := by decide +kernel
theorem d_La_law_700 : decode code 700 = .ok (.iload 6, 2) := by decide +kernel
theorem d_La_law_702 : decode code 702 = .ok (.i2l, 1) := by decide +kernel
theorem d_La_law_703 : decode code 703 = .ok (.lcmp, 1) := by decide +kernel
theorem d_La_law_704 : decode code 704 = .ok (.ifCond .eq 5, 3) := by decide +kernel
theorem d_La_law_707 : decode code 707 = .ok (.iconst 0, 1) := by decide +kernel
theorem d_La_law_708 : decode code 708 = .ok (.ireturn, 1) := by decide +kernel
theorem d_La_law_709 : decode code 709 = .ok (.goto 400, 3) := by decide +kernel
theorem d_La_law_712 : decode code 712 = .ok (.aload_n 1, 1) := by decide +kernel
theorem d_La_law_713 : decode code 713 = .ok (.aload_n 0, 1) := by decide +kernel
theorem d_La_law_714 : decode code 714 = .ok (.iload 4, 2) := by decide +kernel
theorem d_La_law_716 : decode code 716 = .ok (.iconst 1, 1) := by decide +kernel
theorem d_La_law_717 : decode code 717 = .ok (.iadd, 1) := by decide +kernel
theorem d_La_law_718 : decode code 718 = .ok (.iaload, 1) := by decide +kernel
theorem d_La_law_719 : decode code 719 = .ok (.aload_n 0, 1) := by decide +kernel
theorem d_La_law_720 : decode code 720 = .ok (.iload 4, 2) := by decide +kernel
theorem d_La_law_722 : decode code 722 = .ok (.iconst 2, 1) := by decide +kernel
theorem d_La_law_723 : decode code 723 = .ok (.iadd, 1) := by decide +kernel
theorem d_La_law_724 : decode code 724 = .ok (.iaload, 1) := by decide +kernel
theorem d_La_law_725 : decode code 725 = .ok (.aload_n 3, 1) := by decide +kernel
theorem d_La_law_726 : decode code 726 = .ok (.invokestatic 105, 3) := by decide +kernel
theorem d_La_law_729 : decode code 729 = .ok (.istore 5, 2) := by decide +kernel
theorem d_La_law_731 : decode code 731 = .ok (.aload_n 2, 1) := by decide +kernel
theorem d_La_law_732 : decode code 732 = .ok (.aload_n 0, 1) := by decide +kernel
theorem d_La_law_733 : decode code 733 = .ok (.iload 4, 2) := by decide +kernel
theorem d_La_law_735 : decode code 735 = .ok (.iconst 1, 1) := by decide +kernel
theorem d_La_law_736 : decode code 736 = .ok (.iadd, 1) := by decide +kernel
theorem d_La_law_737 : decode code 737 = .ok (.iaload, 1) := by decide +kernel
theorem d_La_law_738 : decode code 738 = .ok (.aload_n 0, 1) := by decide +kernel
theorem d_La_law_739 : decode code 739 = .ok (.iload 4, 2) := by decide +kernel
theorem d_La_law_741 : decode code 741 = .ok (.iconst 2, 1) := by decide +kernel
theorem d_La_law_742 : decode code 742 = .ok (.iadd, 1) := by decide +kernel
theorem d_La_law_743 : decode code 743 = .ok (.iaload, 1) := by decide +kernel
theorem d_La_law_744 : decode code 744 = .ok (.invokevirtual 107, 3) := by decide +kernel
theorem d_La_law_747 : decode code 747 = .ok (.istore 6, 2) := by decide +kernel
theorem d_La_law_749 : decode code 749 = .ok (.aload_n 2, 1) := by decide +kernel
theorem d_La_law_750 : decode code 750 = .ok (.invokevirtual 75, 3) := by decide +kernel
theorem d_La_law_753 : decode code 753 = .ok (.iload 5, 2) := by decide +kernel
theorem d_La_law_755 : decode code 755 = .ok (.if_icmp .eq 5, 3) := by decide +kernel
theorem d_La_law_758 : decode code 758 = .ok (.iconst 0, 1) := by decide +kernel
theorem d_La_law_759 : decode code 759 = .ok (.ireturn, 1) := by decide +kernel
theorem d_La_law_760 : decode code 760 = .ok (.iload 5, 2) := by decide +kernel
theorem d_La_law_762 : decode code 762 = .ok (.ifCond .ne 15, 3) := by decide +kernel
theorem d_La_law_765 : decode code 765 = .ok (.aload_n 3, 1) := by decide +kernel
theorem d_La_law_766 : decode code 766 = .ok (.iconst 0, 1) := by decide +kernel
theorem d_La_law_767 : decode code 767 = .ok (.laload, 1) := by decide +kernel
theorem d_La_law_768 : decode code 768 = .ok (.iload 6, 2) := by decide +kernel
theorem d_La_law_770 : decode code 770 = .ok (.i2l, 1) := by decide +kernel
theorem d_La_law_771 : decode code 771 = .ok (.lcmp, 1) := by decide +kernel
theorem d_La_law_772 : decode code 772 = .ok (.ifCond .eq 5, 3) := by decide +kernel
theorem d_La_law_775 : decode code 775 = .ok (.iconst 0, 1) := by decide +kernel
theorem d_La_law_776 : decode code 776 = .ok (.ireturn, 1) := by decide +kernel
theorem d_La_law_777 : decode code 777 = .ok (.goto 332, 3) := by decide +kernel
theorem d_La_law_780 : decode code 780 = .ok (.aload_n 1, 1) := by decide +kernel
theorem d_La_law_781 : decode code 781 = .ok (.aload_n 0, 1) := by decide +kernel
theorem d_La_law_782 : decode code 782 = .ok (.iload 4, 2) := by decide +kernel
theorem d_La_law_784 : decode code 784 = .ok (.iconst 1, 1) := by decide +kernel
theorem d_La_law_785 : decode code 785 = .ok (.iadd, 1) := by decide +kernel
theorem d_La_law_786 : decode code 786 = .ok (.iaload, 1) := by decide +kernel
theorem d_La_law_787 : decode code 787 = .ok (.aload_n 0, 1) := by decide +kernel
theorem d_La_law_788 : decode code 788 = .ok (.iload 4, 2) := by decide +kernel
theorem d_La_law_790 : decode code 790 = .ok (.iconst 2, 1) := by decide +kernel
theorem d_La_law_791 : decode code 791 = .ok (.iadd, 1) := by decide +kernel
theorem d_La_law_792 : decode code 792 = .ok (.iaload, 1) := by decide +kernel
theorem d_La_law_793 : decode code 793 = .ok (.aload_n 3, 1) := by decide +kernel
theorem d_La_law_794 : decode code 794 = .ok (.invokestatic 108, 3) := by decide +kernel
theorem d_La_law_797 : decode code 797 = .ok (.istore 5, 2) := by decide +kernel
theorem d_La_law_799 : decode code 799 = .ok (.aload_n 2, 1) := by decide +kernel
theorem d_La_law_800 : decode code 800 = .ok (.aload_n 0, 1) := by decide +kernel
theorem d_La_law_801 : decode code 801 = .ok (.iload 4, 2) := by decide +kernel
theorem d_La_law_803 : decode code 803 = .ok (.iconst 1, 1) := by decide +kernel
theorem d_La_law_804 : decode code 804 = .ok (.iadd, 1) := by decide +kernel
theorem d_La_law_805 : decode code 805 = .ok (.iaload, 1) := by decide +kernel
theorem d_La_law_806 : decode code 806 = .ok (.aload_n 0, 1) := by decide +kernel
theorem d_La_law_807 : decode code 807 = .ok (.iload 4, 2) := by decide +kernel
theorem d_La_law_809 : decode code 809 = .ok (.iconst 2, 1) := by decide +kernel
theorem d_La_law_810 : decode code 810 = .ok (.iadd, 1) := by decide +kernel
theorem d_La_law_811 : decode code 811 = .ok (.iaload, 1) := by decide +kernel
theorem d_La_law_812 : decode code 812 = .ok (.invokevirtual 110, 3) := by decide +kernel
theorem d_La_law_815 : decode code 815 = .ok (.istore 6, 2) := by decide +kernel
theorem d_La_law_817 : decode code 817 = .ok (.aload_n 2, 1) := by decide +kernel
theorem d_La_law_818 : decode code 818 = .ok (.invokevirtual 75, 3) := by decide +kernel
theorem d_La_law_821 : decode code 821 = .ok (.iload 5, 2) := by decide +kernel
theorem d_La_law_823 : decode code 823 = .ok (.if_icmp .eq 5, 3) := by decide +kernel
theorem d_La_law_826 : decode code 826 = .ok (.iconst 0, 1) := by decide +kernel
theorem d_La_law_827 : decode code 827 = .ok (.ireturn, 1) := by decide +kernel
theorem d_La_law_828 : decode code 828 = .ok (.iload 5, 2) := by decide +kernel
theorem d_La_law_830 : decode code 830 = .ok (.ifCond .ne 15, 3) := by decide +kernel
theorem d_La_law_833 : decode code 833 = .ok (.aload_n 3, 1) := by decide +kernel
theorem d_La_law_834 : decode code 834 = .ok (.iconst 0, 1) := by decide +kernel
theorem d_La_law_835 : decode code 835 = .ok (.laload, 1) := by decide +kernel
theorem d_La_law_836 : decode code 836 = .ok (.iload 6, 2) := by decide +kernel
theorem d_La_law_838 : decode code 838 = .ok (.i2l, 1) := by decide +kernel
theorem d_La_law_839 : decode code 839 = .ok (.lcmp, 1) := by decide +kernel
theorem d_La_law_840 : decode code 840 = .ok (.ifCond .eq 5, 3) := by decide +kernel
theorem d_La_law_843 : decode code 843 = .ok (.iconst 0, 1) := by decide +kernel
theorem d_La_law_844 : decode code 844 = .ok (.ireturn, 1) := by decide +kernel
theorem d_La_law_845 : decode code 845 = .ok (.goto 264, 3) := by decide +kernel
theorem d_La_law_848 : decode code 848 = .ok (.aload_n 1, 1) := by decide +kernel
theorem d_La_law_849 : decode code 849 = .ok (.aload_n 0, 1) := by decide +kernel
theorem d_La_law_850 : decode code 850 = .ok (.iload 4, 2) := by decide +kernel
theorem d_La_law_852 : decode code 852 = .ok (.iconst 1, 1) := by decide +kernel
theorem d_La_law_853 : decode code 853 = .ok (.iadd, 1) := by decide +kernel
theorem d_La_law_854 : decode code 854 = .ok (.iaload, 1) := by decide +kernel
theorem d_La_law_855 : decode code 855 = .ok (.aload_n 0, 1) := by decide +kernel
theorem d_La_law_856 : decode code 856 = .ok (.iload 4, 2) := by decide +kernel
theorem d_La_law_858 : decode code 858 = .ok (.iconst 2, 1) := by decide +kernel
theorem d_La_law_859 : decode code 859 = .ok (.iadd, 1) := by decide +kernel
theorem d_La_law_860 : decode code 860 = .ok (.iaload, 1) := by decide +kernel
theorem d_La_law_861 : decode code 861 = .ok (.ifCond .eq 7, 3) := by decide +kernel
theorem d_La_law_864 : decode code 864 = .ok (.iconst 1, 1) := by decide +kernel
theorem d_La_law_865 : decode code 865 = .ok (.goto 4, 3) := by decide +kernel
theorem d_La_law_868 : decode code 868 = .ok (.iconst 0, 1) := by decide +kernel
theorem d_La_law_869 : decode code 869 = .ok (.aload_n 3, 1) := by decide +kernel
theorem d_La_law_870 : decode code 870 = .ok (.invokestatic 111, 3) := by decide +kernel
theorem d_La_law_873 : decode code 873 = .ok (.istore 5, 2) := by decide +kernel
theorem d_La_law_875 : decode code 875 = .ok (.aload_n 2, 1) := by decide +kernel
theorem d_La_law_876 : decode code 876 = .ok (.aload_n 0, 1) := by decide +kernel
theorem d_La_law_877 : decode code 877 = .ok (.iload 4, 2) := by decide +kernel
theorem d_La_law_879 : decode code 879 = .ok (.iconst 1, 1) := by decide +kernel
theorem d_La_law_880 : decode code 880 = .ok (.iadd, 1) := by decide +kernel
theorem d_La_law_881 : decode code 881 = .ok (.iaload, 1) := by decide +kernel
theorem d_La_law_882 : decode code 882 = .ok (.aload_n 0, 1) := by decide +kernel
theorem d_La_law_883 : decode code 883 = .ok (.iload 4, 2) := by decide +kernel
theorem d_La_law_885 : decode code 885 = .ok (.iconst 2, 1) := by decide +kernel
theorem d_La_law_886 : decode code 886 = .ok (.iadd, 1) := by decide +kernel
theorem d_La_law_887 : decode code 887 = .ok (.iaload, 1) := by decide +kernel
theorem d_La_law_888 : decode code 888 = .ok (.ifCond .eq 7, 3) := by decide +kernel
theorem d_La_law_891 : decode code 891 = .ok (.iconst 1, 1) := by decide +kernel
theorem d_La_law_892 : decode code 892 = .ok (.goto 4, 3) := by decide +kernel
theorem d_La_law_895 : decode code 895 = .ok (.iconst 0, 1) := by decide +kernel
theorem d_La_law_896 : decode code 896 = .ok (.invokevirtual 114, 3) := by decide +kernel
theorem d_La_law_899 : decode code 899 = .ok (.istore 6, 2) := by decide +kernel
theorem d_La_law_901 : decode code 901 = .ok (.aload_n 2, 1) := by decide +kernel
theorem d_La_law_902 : decode code 902 = .ok (.invokevirtual 75, 3) := by decide +kernel
theorem d_La_law_905 : decode code 905 = .ok (.iload 5, 2) := by decide +kernel
theorem d_La_law_907 : decode code 907 = .ok (.if_icmp .eq 5, 3) := by decide +kernel
theorem d_La_law_910 : decode code 910 = .ok (.iconst 0, 1) := by decide +kernel
theorem d_La_law_911 : decode code 911 = .ok (.ireturn, 1) := by decide +kernel
theorem d_La_law_912 : decode code 912 = .ok (.iload 5, 2) := by decide +kernel
theorem d_La_law_914 : decode code 914 = .ok (.ifCond .ne 15, 3) := by decide +kernel
theorem d_La_law_917 : decode code 917 = .ok (.aload_n 3, 1) := by decide +kernel
theorem d_La_law_918 : decode code 918 = .ok (.iconst 0, 1) := by decide +kernel
theorem d_La_law_919 : decode code 919 = .ok (.laload, 1) := by decide +kernel
theorem d_La_law_920 : decode code 920 = .ok (.iload 6, 2) := by decide +kernel
theorem d_La_law_922 : decode code 922 = .ok (.i2l, 1) := by decide +kernel
theorem d_La_law_923 : decode code 923 = .ok (.lcmp, 1) := by decide +kernel
theorem d_La_law_924 : decode code 924 = .ok (.ifCond .eq 5, 3) := by decide +kernel
theorem d_La_law_927 : decode code 927 = .ok (.iconst 0, 1) := by decide +kernel
theorem d_La_law_928 : decode code 928 = .ok (.ireturn, 1) := by decide +kernel
theorem d_La_law_929 : decode code 929 = .ok (.goto 180, 3) := by decide +kernel
theorem d_La_law_932 : decode code 932 = .ok (.aload_n 1, 1) := by decide +kernel
theorem d_La_law_933 : decode code 933 = .ok (.aload_n 0, 1) := by decide +kernel
theorem d_La_law_934 : decode code 934 = .ok (.iload 4, 2) := by decide +kernel
theorem d_La_law_936 : decode code 936 = .ok (.iconst 1, 1) := by decide +kernel
theorem d_La_law_937 : decode code 937 = .ok (.iadd, 1) := by decide +kernel
theorem d_La_law_938 : decode code 938 = .ok (.iaload, 1) := by decide +kernel
theorem d_La_law_939 : decode code 939 = .ok (.aload_n 0, 1) := by decide +kernel
theorem d_La_law_940 : decode code 940 = .ok (.iload 4, 2) := by decide +kernel
theorem d_La_law_942 : decode code 942 = .ok (.iconst 2, 1) := by decide +kernel
theorem d_La_law_943 : decode code 943 = .ok (.iadd, 1) := by decide +kernel
theorem d_La_law_944 : decode code 944 = .ok (.iaload, 1) := by decide +kernel
theorem d_La_law_945 : decode code 945 = .ok (.aload_n 3, 1) := by decide +kernel
theorem d_La_law_946 : decode code 946 = .ok (.invokestatic 115, 3) := by decide +kernel
theorem d_La_law_949 : decode code 949 = .ok (.istore 5, 2) := by decide +kernel
theorem d_La_law_951 : decode code 951 = .ok (.aload_n 2, 1) := by decide +kernel
theorem d_La_law_952 : decode code 952 = .ok (.aload_n 0, 1) := by decide +kernel
theorem d_La_law_953 : decode code 953 = .ok (.iload 4, 2) := by decide +kernel
theorem d_La_law_955 : decode code 955 = .ok (.iconst 1, 1) := by decide +kernel
theorem d_La_law_956 : decode code 956 = .ok (.iadd, 1) := by decide +kernel
theorem d_La_law_957 : decode code 957 = .ok (.iaload, 1) := by decide +kernel
theorem d_La_law_958 : decode code 958 = .ok (.aload_n 0, 1) := by decide +kernel
theorem d_La_law_959 : decode code 959 = .ok (.iload 4, 2) := by decide +kernel
theorem d_La_law_961 : decode code 961 = .ok (.iconst 2, 1) := by decide +kernel
