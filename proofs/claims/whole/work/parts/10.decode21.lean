theorem d_La_law_660 : decode c_La_law 660 = .ok (.aload_n 0, 1) := by decide +kernel
theorem d_La_law_661 : decode c_La_law 661 = .ok (.iload 4, 2) := by decide +kernel
theorem d_La_law_663 : decode c_La_law 663 = .ok (.iconst 3, 1) := by decide +kernel
theorem d_La_law_664 : decode c_La_law 664 = .ok (.iadd, 1) := by decide +kernel
theorem d_La_law_665 : decode c_La_law 665 = .ok (.iaload, 1) := by decide +kernel
theorem d_La_law_666 : decode c_La_law 666 = .ok (.i2l, 1) := by decide +kernel
theorem d_La_law_667 : decode c_La_law 667 = .ok (.bipush 32, 2) := by decide +kernel
theorem d_La_law_669 : decode c_La_law 669 = .ok (.lshl, 1) := by decide +kernel
theorem d_La_law_670 : decode c_La_law 670 = .ok (.aload_n 0, 1) := by decide +kernel
theorem d_La_law_671 : decode c_La_law 671 = .ok (.iload 4, 2) := by decide +kernel
theorem d_La_law_673 : decode c_La_law 673 = .ok (.iconst 4, 1) := by decide +kernel
theorem d_La_law_674 : decode c_La_law 674 = .ok (.iadd, 1) := by decide +kernel
theorem d_La_law_675 : decode c_La_law 675 = .ok (.iaload, 1) := by decide +kernel
theorem d_La_law_676 : decode c_La_law 676 = .ok (.i2l, 1) := by decide +kernel
theorem d_La_law_677 : decode c_La_law 677 = .ok (.ldc2_w 82, 3) := by decide +kernel
theorem d_La_law_680 : decode c_La_law 680 = .ok (.land, 1) := by decide +kernel
theorem d_La_law_681 : decode c_La_law 681 = .ok (.lor, 1) := by decide +kernel
theorem d_La_law_682 : decode c_La_law 682 = .ok (.aload_n 0, 1) := by decide +kernel
theorem d_La_law_683 : decode c_La_law 683 = .ok (.iload 4, 2) := by decide +kernel
theorem d_La_law_685 : decode c_La_law 685 = .ok (.iconst 5, 1) := by decide +kernel
theorem d_La_law_686 : decode c_La_law 686 = .ok (.iadd, 1) := by decide +kernel
theorem d_La_law_687 : decode c_La_law 687 = .ok (.iaload, 1) := by decide +kernel
theorem d_La_law_688 : decode c_La_law 688 = .ok (.invokevirtual 106, 3) := by decide +kernel
theorem d_La_law_691 : decode c_La_law 691 = .ok (.istore 6, 2) := by decide +kernel
theorem d_La_law_693 : decode c_La_law 693 = .ok (.aload_n 2, 1) := by decide +kernel
theorem d_La_law_694 : decode c_La_law 694 = .ok (.invokevirtual 78, 3) := by decide +kernel
theorem d_La_law_697 : decode c_La_law 697 = .ok (.iload 5, 2) := by decide +kernel
theorem d_La_law_699 : decode c_La_law 699 = .ok (.if_icmp .eq 5, 3) := by decide +kernel
theorem d_La_law_702 : decode c_La_law 702 = .ok (.iconst 0, 1) := by decide +kernel
theorem d_La_law_703 : decode c_La_law 703 = .ok (.ireturn, 1) := by decide +kernel
theorem d_La_law_704 : decode c_La_law 704 = .ok (.iload 5, 2) := by decide +kernel
theorem d_La_law_706 : decode c_La_law 706 = .ok (.ifCond .ne 15, 3) := by decide +kernel
theorem d_La_law_709 : decode c_La_law 709 = .ok (.aload_n 3, 1) := by decide +kernel
theorem d_La_law_710 : decode c_La_law 710 = .ok (.iconst 0, 1) := by decide +kernel
theorem d_La_law_711 : decode c_La_law 711 = .ok (.laload, 1) := by decide +kernel
theorem d_La_law_712 : decode c_La_law 712 = .ok (.iload 6, 2) := by decide +kernel
theorem d_La_law_714 : decode c_La_law 714 = .ok (.i2l, 1) := by decide +kernel
theorem d_La_law_715 : decode c_La_law 715 = .ok (.lcmp, 1) := by decide +kernel
theorem d_La_law_716 : decode c_La_law 716 = .ok (.ifCond .eq 5, 3) := by decide +kernel
theorem d_La_law_719 : decode c_La_law 719 = .ok (.iconst 0, 1) := by decide +kernel
theorem d_La_law_720 : decode c_La_law 720 = .ok (.ireturn, 1) := by decide +kernel
theorem d_La_law_721 : decode c_La_law 721 = .ok (.goto 516, 3) := by decide +kernel
theorem d_La_law_724 : decode c_La_law 724 = .ok (.aload_n 1, 1) := by decide +kernel
theorem d_La_law_725 : decode c_La_law 725 = .ok (.aload_n 0, 1) := by decide +kernel
theorem d_La_law_726 : decode c_La_law 726 = .ok (.iload 4, 2) := by decide +kernel
theorem d_La_law_728 : decode c_La_law 728 = .ok (.iconst 1, 1) := by decide +kernel
theorem d_La_law_729 : decode c_La_law 729 = .ok (.iadd, 1) := by decide +kernel
theorem d_La_law_730 : decode c_La_law 730 = .ok (.iaload, 1) := by decide +kernel
theorem d_La_law_731 : decode c_La_law 731 = .ok (.aload_n 0, 1) := by decide +kernel
theorem d_La_law_732 : decode c_La_law 732 = .ok (.iload 4, 2) := by decide +kernel
theorem d_La_law_734 : decode c_La_law 734 = .ok (.iconst 2, 1) := by decide +kernel
theorem d_La_law_735 : decode c_La_law 735 = .ok (.iadd, 1) := by decide +kernel
theorem d_La_law_736 : decode c_La_law 736 = .ok (.iaload, 1) := by decide +kernel
theorem d_La_law_737 : decode c_La_law 737 = .ok (.aload_n 0, 1) := by decide +kernel
theorem d_La_law_738 : decode c_La_law 738 = .ok (.iload 4, 2) := by decide +kernel
theorem d_La_law_740 : decode c_La_law 740 = .ok (.iconst 3, 1) := by decide +kernel
theorem d_La_law_741 : decode c_La_law 741 = .ok (.iadd, 1) := by decide +kernel
theorem d_La_law_742 : decode c_La_law 742 = .ok (.iaload, 1) := by decide +kernel
theorem d_La_law_743 : decode c_La_law 743 = .ok (.aload_n 0, 1) := by decide +kernel
theorem d_La_law_744 : decode c_La_law 744 = .ok (.iload 4, 2) := by decide +kernel
theorem d_La_law_746 : decode c_La_law 746 = .ok (.iconst 4, 1) := by decide +kernel
theorem d_La_law_747 : decode c_La_law 747 = .ok (.iadd, 1) := by decide +kernel
theorem d_La_law_748 : decode c_La_law 748 = .ok (.iaload, 1) := by decide +kernel
theorem d_La_law_749 : decode c_La_law 749 = .ok (.invokestatic 107, 3) := by decide +kernel
theorem d_La_law_752 : decode c_La_law 752 = .ok (.istore 5, 2) := by decide +kernel
theorem d_La_law_754 : decode c_La_law 754 = .ok (.aload_n 2, 1) := by decide +kernel
theorem d_La_law_755 : decode c_La_law 755 = .ok (.aload_n 0, 1) := by decide +kernel
theorem d_La_law_756 : decode c_La_law 756 = .ok (.iload 4, 2) := by decide +kernel
theorem d_La_law_758 : decode c_La_law 758 = .ok (.iconst 1, 1) := by decide +kernel
theorem d_La_law_759 : decode c_La_law 759 = .ok (.iadd, 1) := by decide +kernel
theorem d_La_law_760 : decode c_La_law 760 = .ok (.iaload, 1) := by decide +kernel
theorem d_La_law_761 : decode c_La_law 761 = .ok (.aload_n 0, 1) := by decide +kernel
theorem d_La_law_762 : decode c_La_law 762 = .ok (.iload 4, 2) := by decide +kernel
theorem d_La_law_764 : decode c_La_law 764 = .ok (.iconst 2, 1) := by decide +kernel
theorem d_La_law_765 : decode c_La_law 765 = .ok (.iadd, 1) := by decide +kernel
theorem d_La_law_766 : decode c_La_law 766 = .ok (.iaload, 1) := by decide +kernel
theorem d_La_law_767 : decode c_La_law 767 = .ok (.aload_n 0, 1) := by decide +kernel
theorem d_La_law_768 : decode c_La_law 768 = .ok (.iload 4, 2) := by decide +kernel
theorem d_La_law_770 : decode c_La_law 770 = .ok (.iconst 3, 1) := by decide +kernel
theorem d_La_law_771 : decode c_La_law 771 = .ok (.iadd, 1) := by decide +kernel
theorem d_La_law_772 : decode c_La_law 772 = .ok (.iaload, 1) := by decide +kernel
theorem d_La_law_773 : decode c_La_law 773 = .ok (.aload_n 0, 1) := by decide +kernel
theorem d_La_law_774 : decode c_La_law 774 = .ok (.iload 4, 2) := by decide +kernel
theorem d_La_law_776 : decode c_La_law 776 = .ok (.iconst 4, 1) := by decide +kernel
theorem d_La_law_777 : decode c_La_law 777 = .ok (.iadd, 1) := by decide +kernel
theorem d_La_law_778 : decode c_La_law 778 = .ok (.iaload, 1) := by decide +kernel
theorem d_La_law_779 : decode c_La_law 779 = .ok (.invokevirtual 110, 3) := by decide +kernel
theorem d_La_law_782 : decode c_La_law 782 = .ok (.aload_n 2, 1) := by decide +kernel
theorem d_La_law_783 : decode c_La_law 783 = .ok (.invokevirtual 78, 3) := by decide +kernel
theorem d_La_law_786 : decode c_La_law 786 = .ok (.iload 5, 2) := by decide +kernel
theorem d_La_law_788 : decode c_La_law 788 = .ok (.if_icmp .eq 5, 3) := by decide +kernel
theorem d_La_law_791 : decode c_La_law 791 = .ok (.iconst 0, 1) := by decide +kernel
theorem d_La_law_792 : decode c_La_law 792 = .ok (.ireturn, 1) := by decide +kernel
theorem d_La_law_793 : decode c_La_law 793 = .ok (.goto 444, 3) := by decide +kernel
theorem d_La_law_796 : decode c_La_law 796 = .ok (.aload_n 1, 1) := by decide +kernel
theorem d_La_law_797 : decode c_La_law 797 = .ok (.aload_n 0, 1) := by decide +kernel
theorem d_La_law_798 : decode c_La_law 798 = .ok (.iload 4, 2) := by decide +kernel
theorem d_La_law_800 : decode c_La_law 800 = .ok (.iconst 1, 1) := by decide +kernel
theorem d_La_law_801 : decode c_La_law 801 = .ok (.iadd, 1) := by decide +kernel
theorem d_La_law_802 : decode c_La_law 802 = .ok (.iaload, 1) := by decide +kernel
theorem d_La_law_803 : decode c_La_law 803 = .ok (.aload_n 0, 1) := by decide +kernel
theorem d_La_law_804 : decode c_La_law 804 = .ok (.iload 4, 2) := by decide +kernel
theorem d_La_law_806 : decode c_La_law 806 = .ok (.iconst 2, 1) := by decide +kernel
theorem d_La_law_807 : decode c_La_law 807 = .ok (.iadd, 1) := by decide +kernel
theorem d_La_law_808 : decode c_La_law 808 = .ok (.iaload, 1) := by decide +kernel
theorem d_La_law_809 : decode c_La_law 809 = .ok (.aload_n 3, 1) := by decide +kernel
theorem d_La_law_810 : decode c_La_law 810 = .ok (.invokestatic 111, 3) := by decide +kernel
theorem d_La_law_813 : decode c_La_law 813 = .ok (.istore 5, 2) := by decide +kernel
theorem d_La_law_815 : decode c_La_law 815 = .ok (.aload_n 2, 1) := by decide +kernel
theorem d_La_law_816 : decode c_La_law 816 = .ok (.aload_n 0, 1) := by decide +kernel
theorem d_La_law_817 : decode c_La_law 817 = .ok (.iload 4, 2) := by decide +kernel
theorem d_La_law_819 : decode c_La_law 819 = .ok (.iconst 1, 1) := by decide +kernel
theorem d_La_law_820 : decode c_La_law 820 = .ok (.iadd, 1) := by decide +kernel
theorem d_La_law_821 : decode c_La_law 821 = .ok (.iaload, 1) := by decide +kernel
theorem d_La_law_822 : decode c_La_law 822 = .ok (.aload_n 0, 1) := by decide +kernel
theorem d_La_law_823 : decode c_La_law 823 = .ok (.iload 4, 2) := by decide +kernel
theorem d_La_law_825 : decode c_La_law 825 = .ok (.iconst 2, 1) := by decide +kernel
theorem d_La_law_826 : decode c_La_law 826 = .ok (.iadd, 1) := by decide +kernel
theorem d_La_law_827 : decode c_La_law 827 = .ok (.iaload, 1) := by decide +kernel
theorem d_La_law_828 : decode c_La_law 828 = .ok (.invokevirtual 114, 3) := by decide +kernel
theorem d_La_law_831 : decode c_La_law 831 = .ok (.istore 6, 2) := by decide +kernel
theorem d_La_law_833 : decode c_La_law 833 = .ok (.aload_n 2, 1) := by decide +kernel
theorem d_La_law_834 : decode c_La_law 834 = .ok (.invokevirtual 78, 3) := by decide +kernel
theorem d_La_law_837 : decode c_La_law 837 = .ok (.iload 5, 2) := by decide +kernel
theorem d_La_law_839 : decode c_La_law 839 = .ok (.if_icmp .eq 5, 3) := by decide +kernel
theorem d_La_law_842 : decode c_La_law 842 = .ok (.iconst 0, 1) := by decide +kernel
theorem d_La_law_843 : decode c_La_law 843 = .ok (.ireturn, 1) := by decide +kernel
theorem d_La_law_844 : decode c_La_law 844 = .ok (.iload 5, 2) := by decide +kernel
theorem d_La_law_846 : decode c_La_law 846 = .ok (.ifCond .ne 15, 3) := by decide +kernel
theorem d_La_law_849 : decode c_La_law 849 = .ok (.aload_n 3, 1) := by decide +kernel
theorem d_La_law_850 : decode c_La_law 850 = .ok (.iconst 0, 1) := by decide +kernel
theorem d_La_law_851 : decode c_La_law 851 = .ok (.laload, 1) := by decide +kernel
theorem d_La_law_852 : decode c_La_law 852 = .ok (.iload 6, 2) := by decide +kernel
theorem d_La_law_854 : decode c_La_law 854 = .ok (.i2l, 1) := by decide +kernel
theorem d_La_law_855 : decode c_La_law 855 = .ok (.lcmp, 1) := by decide +kernel
theorem d_La_law_856 : decode c_La_law 856 = .ok (.ifCond .eq 5, 3) := by decide +kernel
theorem d_La_law_859 : decode c_La_law 859 = .ok (.iconst 0, 1) := by decide +kernel
theorem d_La_law_860 : decode c_La_law 860 = .ok (.ireturn, 1) := by decide +kernel
theorem d_La_law_861 : decode c_La_law 861 = .ok (.goto 376, 3) := by decide +kernel
theorem d_La_law_864 : decode c_La_law 864 = .ok (.aload_n 1, 1) := by decide +kernel
theorem d_La_law_865 : decode c_La_law 865 = .ok (.aload_n 0, 1) := by decide +kernel
theorem d_La_law_866 : decode c_La_law 866 = .ok (.iload 4, 2) := by decide +kernel
theorem d_La_law_868 : decode c_La_law 868 = .ok (.iconst 1, 1) := by decide +kernel
theorem d_La_law_869 : decode c_La_law 869 = .ok (.iadd, 1) := by decide +kernel
theorem d_La_law_870 : decode c_La_law 870 = .ok (.iaload, 1) := by decide +kernel
theorem d_La_law_871 : decode c_La_law 871 = .ok (.aload_n 0, 1) := by decide +kernel
theorem d_La_law_872 : decode c_La_law 872 = .ok (.iload 4, 2) := by decide +kernel
theorem d_La_law_874 : decode c_La_law 874 = .ok (.iconst 2, 1) := by decide +kernel
theorem d_La_law_875 : decode c_La_law 875 = .ok (.iadd, 1) := by decide +kernel
theorem d_La_law_876 : decode c_La_law 876 = .ok (.iaload, 1) := by decide +kernel
theorem d_La_law_877 : decode c_La_law 877 = .ok (.aload_n 3, 1) := by decide +kernel
theorem d_La_law_878 : decode c_La_law 878 = .ok (.invokestatic 115, 3) := by decide +kernel
theorem d_La_law_881 : decode c_La_law 881 = .ok (.istore 5, 2) := by decide +kernel
theorem d_La_law_883 : decode c_La_law 883 = .ok (.aload_n 2, 1) := by decide +kernel
theorem d_La_law_884 : decode c_La_law 884 = .ok (.aload_n 0, 1) := by decide +kernel
theorem d_La_law_885 : decode c_La_law 885 = .ok (.iload 4, 2) := by decide +kernel
theorem d_La_law_887 : decode c_La_law 887 = .ok (.iconst 1, 1) := by decide +kernel
theorem d_La_law_888 : decode c_La_law 888 = .ok (.iadd, 1) := by decide +kernel
theorem d_La_law_889 : decode c_La_law 889 = .ok (.iaload, 1) := by decide +kernel
theorem d_La_law_890 : decode c_La_law 890 = .ok (.aload_n 0, 1) := by decide +kernel
theorem d_La_law_891 : decode c_La_law 891 = .ok (.iload 4, 2) := by decide +kernel
theorem d_La_law_893 : decode c_La_law 893 = .ok (.iconst 2, 1) := by decide +kernel
theorem d_La_law_894 : decode c_La_law 894 = .ok (.iadd, 1) := by decide +kernel
theorem d_La_law_895 : decode c_La_law 895 = .ok (.iaload, 1) := by decide +kernel
theorem d_La_law_896 : decode c_La_law 896 = .ok (.invokevirtual 117, 3) := by decide +kernel
theorem d_La_law_899 : decode c_La_law 899 = .ok (.istore 6, 2) := by decide +kernel
theorem d_La_law_901 : decode c_La_law 901 = .ok (.aload_n 2, 1) := by decide +kernel
theorem d_La_law_902 : decode c_La_law 902 = .ok (.invokevirtual 78, 3) := by decide +kernel
theorem d_La_law_905 : decode c_La_law 905 = .ok (.iload 5, 2) := by decide +kernel
theorem d_La_law_907 : decode c_La_law 907 = .ok (.if_icmp .eq 5, 3) := by decide +kernel
theorem d_La_law_910 : decode c_La_law 910 = .ok (.iconst 0, 1) := by decide +kernel
theorem d_La_law_911 : decode c_La_law 911 = .ok (.ireturn, 1) := by decide +kernel
theorem d_La_law_912 : decode c_La_law 912 = .ok (.iload 5, 2) := by decide +kernel
theorem d_La_law_914 : decode c_La_law 914 = .ok (.ifCond .ne 15, 3) := by decide +kernel
theorem d_La_law_917 : decode c_La_law 917 = .ok (.aload_n 3, 1) := by decide +kernel
theorem d_La_law_918 : decode c_La_law 918 = .ok (.iconst 0, 1) := by decide +kernel
theorem d_La_law_919 : decode c_La_law 919 = .ok (.laload, 1) := by decide +kernel
theorem d_La_law_920 : decode c_La_law 920 = .ok (.iload 6, 2) := by decide +kernel
theorem d_La_law_922 : decode c_La_law 922 = .ok (.i2l, 1) := by decide +kernel
theorem d_La_law_923 : decode c_La_law 923 = .ok (.lcmp, 1) := by decide +kernel
theorem d_La_law_924 : decode c_La_law 924 = .ok (.ifCond .eq 5, 3) := by decide +kernel
theorem d_La_law_927 : decode c_La_law 927 = .ok (.iconst 0, 1) := by decide +kernel
theorem d_La_law_928 : decode c_La_law 928 = .ok (.ireturn, 1) := by decide +kernel
theorem d_La_law_929 : decode c_La_law 929 = .ok (.goto 308, 3) := by decide +kernel
theorem d_La_law_932 : decode c_La_law 932 = .ok (.aload_n 1, 1) := by decide +kernel
theorem d_La_law_933 : decode c_La_law 933 = .ok (.aload_n 0, 1) := by decide +kernel
theorem d_La_law_934 : decode c_La_law 934 = .ok (.iload 4, 2) := by decide +kernel
theorem d_La_law_936 : decode c_La_law 936 = .ok (.iconst 1, 1) := by decide +kernel
theorem d_La_law_937 : decode c_La_law 937 = .ok (.iadd, 1) := by decide +kernel
theorem d_La_law_938 : decode c_La_law 938 = .ok (.iaload, 1) := by decide +kernel
theorem d_La_law_939 : decode c_La_law 939 = .ok (.aload_n 0, 1) := by decide +kernel
theorem d_La_law_940 : decode c_La_law 940 = .ok (.iload 4, 2) := by decide +kernel
theorem d_La_law_942 : decode c_La_law 942 = .ok (.iconst 2, 1) := by decide +kernel
theorem d_La_law_943 : decode c_La_law 943 = .ok (.iadd, 1) := by decide +kernel
theorem d_La_law_944 : decode c_La_law 944 = .ok (.iaload, 1) := by decide +kernel
theorem d_La_law_945 : decode c_La_law 945 = .ok (.aload_n 3, 1) := by decide +kernel
theorem d_La_law_946 : decode c_La_law 946 = .ok (.invokestatic 118, 3) := by decide +kernel
theorem d_La_law_949 : decode c_La_law 949 = .ok (.istore 5, 2) := by decide +kernel
theorem d_La_law_951 : decode c_La_law 951 = .ok (.aload_n 2, 1) := by decide +kernel
theorem d_La_law_952 : decode c_La_law 952 = .ok (.aload_n 0, 1) := by decide +kernel
theorem d_La_law_953 : decode c_La_law 953 = .ok (.iload 4, 2) := by decide +kernel
theorem d_La_law_955 : decode c_La_law 955 = .ok (.iconst 1, 1) := by decide +kernel
theorem d_La_law_956 : decode c_La_law 956 = .ok (.iadd, 1) := by decide +kernel
theorem d_La_law_957 : decode c_La_law 957 = .ok (.iaload, 1) := by decide +kernel
theorem d_La_law_958 : decode c_La_law 958 = .ok (.aload_n 0, 1) := by decide +kernel
theorem d_La_law_959 : decode c_La_law 959 = .ok (.iload 4, 2) := by decide +kernel
theorem d_La_law_961 : decode c_La_law 961 = .ok (.iconst 2, 1) := by decide +kernel
theorem d_La_law_962 : decode c_La_law 962 = .ok (.iadd, 1) := by decide +kernel
theorem d_La_law_963 : decode c_La_law 963 = .ok (.iaload, 1) := by decide +kernel
theorem d_La_law_964 : decode c_La_law 964 = .ok (.invokevirtual 120, 3) := by decide +kernel
theorem d_La_law_967 : decode c_La_law 967 = .ok (.istore 6, 2) := by decide +kernel
theorem d_La_law_969 : decode c_La_law 969 = .ok (.aload_n 2, 1) := by decide +kernel
theorem d_La_law_970 : decode c_La_law 970 = .ok (.invokevirtual 78, 3) := by decide +kernel
theorem d_La_law_973 : decode c_La_law 973 = .ok (.iload 5, 2) := by decide +kernel
theorem d_La_law_975 : decode c_La_law 975 = .ok (.if_icmp .eq 5, 3) := by decide +kernel
theorem d_La_law_978 : decode c_La_law 978 = .ok (.iconst 0, 1) := by decide +kernel
theorem d_La_law_979 : decode c_La_law 979 = .ok (.ireturn, 1) := by decide +kernel
theorem d_La_law_980 : decode c_La_law 980 = .ok (.iload 5, 2) := by decide +kernel
theorem d_La_law_982 : decode c_La_law 982 = .ok (.ifCond .ne 15, 3) := by decide +kernel
theorem d_La_law_985 : decode c_La_law 985 = .ok (.aload_n 3, 1) := by decide +kernel
theorem d_La_law_986 : decode c_La_law 986 = .ok (.iconst 0, 1) := by decide +kernel
theorem d_La_law_987 : decode c_La_law 987 = .ok (.laload, 1) := by decide +kernel
theorem d_La_law_988 : decode c_La_law 988 = .ok (.iload 6, 2) := by decide +kernel
theorem d_La_law_990 : decode c_La_law 990 = .ok (.i2l, 1) := by decide +kernel
theorem d_La_law_991 : decode c_La_law 991 = .ok (.lcmp, 1) := by decide +kernel
theorem d_La_law_992 : decode c_La_law 992 = .ok (.ifCond .eq 5, 3) := by decide +kernel
theorem d_La_law_995 : decode c_La_law 995 = .ok (.iconst 0, 1) := by decide +kernel
theorem d_La_law_996 : decode c_La_law 996 = .ok (.ireturn, 1) := by decide +kernel
theorem d_La_law_997 : decode c_La_law 997 = .ok (.goto 240, 3) := by decide +kernel
theorem d_La_law_1000 : decode c_La_law 1000 = .ok (.aload_n 1, 1) := by decide +kernel
theorem d_La_law_1001 : decode c_La_law 1001 = .ok (.aload_n 0, 1) := by decide +kernel
theorem d_La_law_1002 : decode c_La_law 1002 = .ok (.iload 4, 2) := by decide +kernel
theorem d_La_law_1004 : decode c_La_law 1004 = .ok (.iconst 1, 1) := by decide +kernel
theorem d_La_law_1005 : decode c_La_law 1005 = .ok (.iadd, 1) := by decide +kernel
theorem d_La_law_1006 : decode c_La_law 1006 = .ok (.iaload, 1) := by decide +kernel
theorem d_La_law_1007 : decode c_La_law 1007 = .ok (.i2l, 1) := by decide +kernel
theorem d_La_law_1008 : decode c_La_law 1008 = .ok (.bipush 32, 2) := by decide +kernel
theorem d_La_law_1010 : decode c_La_law 1010 = .ok (.lshl, 1) := by decide +kernel
theorem d_La_law_1011 : decode c_La_law 1011 = .ok (.aload_n 0, 1) := by decide +kernel
theorem d_La_law_1012 : decode c_La_law 1012 = .ok (.iload 4, 2) := by decide +kernel
theorem d_La_law_1014 : decode c_La_law 1014 = .ok (.iconst 2, 1) := by decide +kernel
theorem d_La_law_1015 : decode c_La_law 1015 = .ok (.iadd, 1) := by decide +kernel
theorem d_La_law_1016 : decode c_La_law 1016 = .ok (.iaload, 1) := by decide +kernel
theorem d_La_law_1017 : decode c_La_law 1017 = .ok (.i2l, 1) := by decide +kernel
theorem d_La_law_1018 : decode c_La_law 1018 = .ok (.ldc2_w 82, 3) := by decide +kernel
theorem d_La_law_1021 : decode c_La_law 1021 = .ok (.land, 1) := by decide +kernel
theorem d_La_law_1022 : decode c_La_law 1022 = .ok (.lor, 1) := by decide +kernel
theorem d_La_law_1023 : decode c_La_law 1023 = .ok (.aload_n 0, 1) := by decide +kernel
theorem d_La_law_1024 : decode c_La_law 1024 = .ok (.iload 4, 2) := by decide +kernel
theorem d_La_law_1026 : decode c_La_law 1026 = .ok (.iconst 3, 1) := by decide +kernel
theorem d_La_law_1027 : decode c_La_law 1027 = .ok (.iadd, 1) := by decide +kernel
theorem d_La_law_1028 : decode c_La_law 1028 = .ok (.iaload, 1) := by decide +kernel
theorem d_La_law_1029 : decode c_La_law 1029 = .ok (.aload_n 3, 1) := by decide +kernel
theorem d_La_law_1030 : decode c_La_law 1030 = .ok (.invokestatic 121, 3) := by decide +kernel
theorem d_La_law_1033 : decode c_La_law 1033 = .ok (.istore 5, 2) := by decide +kernel
theorem d_La_law_1035 : decode c_La_law 1035 = .ok (.aload_n 2, 1) := by decide +kernel
theorem d_La_law_1036 : decode c_La_law 1036 = .ok (.aload_n 0, 1) := by decide +kernel
theorem d_La_law_1037 : decode c_La_law 1037 = .ok (.iload 4, 2) := by decide +kernel
theorem d_La_law_1039 : decode c_La_law 1039 = .ok (.iconst 1, 1) := by decide +kernel
theorem d_La_law_1040 : decode c_La_law 1040 = .ok (.iadd, 1) := by decide +kernel
theorem d_La_law_1041 : decode c_La_law 1041 = .ok (.iaload, 1) := by decide +kernel
theorem d_La_law_1042 : decode c_La_law 1042 = .ok (.i2l, 1) := by decide +kernel
theorem d_La_law_1043 : decode c_La_law 1043 = .ok (.bipush 32, 2) := by decide +kernel
theorem d_La_law_1045 : decode c_La_law 1045 = .ok (.lshl, 1) := by decide +kernel
theorem d_La_law_1046 : decode c_La_law 1046 = .ok (.aload_n 0, 1) := by decide +kernel
theorem d_La_law_1047 : decode c_La_law 1047 = .ok (.iload 4, 2) := by decide +kernel
theorem d_La_law_1049 : decode c_La_law 1049 = .ok (.iconst 2, 1) := by decide +kernel
theorem d_La_law_1050 : decode c_La_law 1050 = .ok (.iadd, 1) := by decide +kernel
theorem d_La_law_1051 : decode c_La_law 1051 = .ok (.iaload, 1) := by decide +kernel
theorem d_La_law_1052 : decode c_La_law 1052 = .ok (.i2l, 1) := by decide +kernel
theorem d_La_law_1053 : decode c_La_law 1053 = .ok (.ldc2_w 82, 3) := by decide +kernel
theorem d_La_law_1056 : decode c_La_law 1056 = .ok (.land, 1) := by decide +kernel
theorem d_La_law_1057 : decode c_La_law 1057 = .ok (.lor, 1) := by decide +kernel
theorem d_La_law_1058 : decode c_La_law 1058 = .ok (.aload_n 0, 1) := by decide +kernel
theorem d_La_law_1059 : decode c_La_law 1059 = .ok (.iload 4, 2) := by decide +kernel
theorem d_La_law_1061 : decode c_La_law 1061 = .ok (.iconst 3, 1) := by decide +kernel
theorem d_La_law_1062 : decode c_La_law 1062 = .ok (.iadd, 1) := by decide +kernel
theorem d_La_law_1063 : decode c_La_law 1063 = .ok (.iaload, 1) := by decide +kernel
theorem d_La_law_1064 : decode c_La_law 1064 = .ok (.invokevirtual 124, 3) := by decide +kernel
theorem d_La_law_1067 : decode c_La_law 1067 = .ok (.istore 6, 2) := by decide +kernel
theorem d_La_law_1069 : decode c_La_law 1069 = .ok (.aload_n 2, 1) := by decide +kernel
theorem d_La_law_1070 : decode c_La_law 1070 = .ok (.invokevirtual 78, 3) := by decide +kernel
theorem d_La_law_1073 : decode c_La_law 1073 = .ok (.iload 5, 2) := by decide +kernel
theorem d_La_law_1075 : decode c_La_law 1075 = .ok (.if_icmp .eq 5, 3) := by decide +kernel
theorem d_La_law_1078 : decode c_La_law 1078 = .ok (.iconst 0, 1) := by decide +kernel
theorem d_La_law_1079 : decode c_La_law 1079 = .ok (.ireturn, 1) := by decide +kernel
theorem d_La_law_1080 : decode c_La_law 1080 = .ok (.iload 5, 2) := by decide +kernel
theorem d_La_law_1082 : decode c_La_law 1082 = .ok (.ifCond .ne 15, 3) := by decide +kernel
theorem d_La_law_1085 : decode c_La_law 1085 = .ok (.aload_n 3, 1) := by decide +kernel
theorem d_La_law_1086 : decode c_La_law 1086 = .ok (.iconst 0, 1) := by decide +kernel
theorem d_La_law_1087 : decode c_La_law 1087 = .ok (.laload, 1) := by decide +kernel
theorem d_La_law_1088 : decode c_La_law 1088 = .ok (.iload 6, 2) := by decide +kernel
theorem d_La_law_1090 : decode c_La_law 1090 = .ok (.i2l, 1) := by decide +kernel
theorem d_La_law_1091 : decode c_La_law 1091 = .ok (.lcmp, 1) := by decide +kernel
theorem d_La_law_1092 : decode c_La_law 1092 = .ok (.ifCond .eq 5, 3) := by decide +kernel
theorem d_La_law_1095 : decode c_La_law 1095 = .ok (.iconst 0, 1) := by decide +kernel
theorem d_La_law_1096 : decode c_La_law 1096 = .ok (.ireturn, 1) := by decide +kernel
theorem d_La_law_1097 : decode c_La_law 1097 = .ok (.goto 140, 3) := by decide +kernel
theorem d_La_law_1100 : decode c_La_law 1100 = .ok (.aload_n 1, 1) := by decide +kernel
theorem d_La_law_1101 : decode c_La_law 1101 = .ok (.aload_n 0, 1) := by decide +kernel
theorem d_La_law_1102 : decode c_La_law 1102 = .ok (.iload 4, 2) := by decide +kernel
theorem d_La_law_1104 : decode c_La_law 1104 = .ok (.iconst 1, 1) := by decide +kernel
theorem d_La_law_1105 : decode c_La_law 1105 = .ok (.iadd, 1) := by decide +kernel
theorem d_La_law_1106 : decode c_La_law 1106 = .ok (.iaload, 1) := by decide +kernel
theorem d_La_law_1107 : decode c_La_law 1107 = .ok (.aload_n 3, 1) := by decide +kernel
theorem d_La_law_1108 : decode c_La_law 1108 = .ok (.invokestatic 125, 3) := by decide +kernel
theorem d_La_law_1111 : decode c_La_law 1111 = .ok (.istore 5, 2) := by decide +kernel
theorem d_La_law_1113 : decode c_La_law 1113 = .ok (.aload_n 2, 1) := by decide +kernel
theorem d_La_law_1114 : decode c_La_law 1114 = .ok (.aload_n 0, 1) := by decide +kernel
theorem d_La_law_1115 : decode c_La_law 1115 = .ok (.iload 4, 2) := by decide +kernel
theorem d_La_law_1117 : decode c_La_law 1117 = .ok (.iconst 1, 1) := by decide +kernel
theorem d_La_law_1118 : decode c_La_law 1118 = .ok (.iadd, 1) := by decide +kernel
theorem d_La_law_1119 : decode c_La_law 1119 = .ok (.iaload, 1) := by decide +kernel
theorem d_La_law_1120 : decode c_La_law 1120 = .ok (.invokevirtual 127, 3) := by decide +kernel
theorem d_La_law_1123 : decode c_La_law 1123 = .ok (.istore 6, 2) := by decide +kernel
theorem d_La_law_1125 : decode c_La_law 1125 = .ok (.aload_n 2, 1) := by decide +kernel
theorem d_La_law_1126 : decode c_La_law 1126 = .ok (.invokevirtual 78, 3) := by decide +kernel
theorem d_La_law_1129 : decode c_La_law 1129 = .ok (.iload 5, 2) := by decide +kernel
theorem d_La_law_1131 : decode c_La_law 1131 = .ok (.if_icmp .eq 5, 3) := by decide +kernel
theorem d_La_law_1134 : decode c_La_law 1134 = .ok (.iconst 0, 1) := by decide +kernel
theorem d_La_law_1135 : decode c_La_law 1135 = .ok (.ireturn, 1) := by decide +kernel
theorem d_La_law_1136 : decode c_La_law 1136 = .ok (.iload 5, 2) := by decide +kernel
theorem d_La_law_1138 : decode c_La_law 1138 = .ok (.ifCond .ne 15, 3) := by decide +kernel
theorem d_La_law_1141 : decode c_La_law 1141 = .ok (.aload_n 3, 1) := by decide +kernel
theorem d_La_law_1142 : decode c_La_law 1142 = .ok (.iconst 0, 1) := by decide +kernel
theorem d_La_law_1143 : decode c_La_law 1143 = .ok (.laload, 1) := by decide +kernel
theorem d_La_law_1144 : decode c_La_law 1144 = .ok (.iload 6, 2) := by decide +kernel
theorem d_La_law_1146 : decode c_La_law 1146 = .ok (.i2l, 1) := by decide +kernel
theorem d_La_law_1147 : decode c_La_law 1147 = .ok (.lcmp, 1) := by decide +kernel
theorem d_La_law_1148 : decode c_La_law 1148 = .ok (.ifCond .eq 5, 3) := by decide +kernel
theorem d_La_law_1151 : decode c_La_law 1151 = .ok (.iconst 0, 1) := by decide +kernel
theorem d_La_law_1152 : decode c_La_law 1152 = .ok (.ireturn, 1) := by decide +kernel
theorem d_La_law_1153 : decode c_La_law 1153 = .ok (.goto 84, 3) := by decide +kernel
theorem d_La_law_1156 : decode c_La_law 1156 = .ok (.aload_n 1, 1) := by decide +kernel
theorem d_La_law_1157 : decode c_La_law 1157 = .ok (.aload_n 0, 1) := by decide +kernel
theorem d_La_law_1158 : decode c_La_law 1158 = .ok (.iload 4, 2) := by decide +kernel
theorem d_La_law_1160 : decode c_La_law 1160 = .ok (.iconst 1, 1) := by decide +kernel
theorem d_La_law_1161 : decode c_La_law 1161 = .ok (.iadd, 1) := by decide +kernel
theorem d_La_law_1162 : decode c_La_law 1162 = .ok (.iaload, 1) := by decide +kernel
theorem d_La_law_1163 : decode c_La_law 1163 = .ok (.aload_n 0, 1) := by decide +kernel
theorem d_La_law_1164 : decode c_La_law 1164 = .ok (.iload 4, 2) := by decide +kernel
theorem d_La_law_1166 : decode c_La_law 1166 = .ok (.iconst 2, 1) := by decide +kernel
theorem d_La_law_1167 : decode c_La_law 1167 = .ok (.iadd, 1) := by decide +kernel
theorem d_La_law_1168 : decode c_La_law 1168 = .ok (.iaload, 1) := by decide +kernel
theorem d_La_law_1169 : decode c_La_law 1169 = .ok (.aload_n 3, 1) := by decide +kernel
theorem d_La_law_1170 : decode c_La_law 1170 = .ok (.invokestatic 128, 3) := by decide +kernel
theorem d_La_law_1173 : decode c_La_law 1173 = .ok (.istore 5, 2) := by decide +kernel
theorem d_La_law_1175 : decode c_La_law 1175 = .ok (.aload_n 2, 1) := by decide +kernel
theorem d_La_law_1176 : decode c_La_law 1176 = .ok (.aload_n 0, 1) := by decide +kernel
theorem d_La_law_1177 : decode c_La_law 1177 = .ok (.iload 4, 2) := by decide +kernel
theorem d_La_law_1179 : decode c_La_law 1179 = .ok (.iconst 1, 1) := by decide +kernel
theorem d_La_law_1180 : decode c_La_law 1180 = .ok (.iadd, 1) := by decide +kernel
theorem d_La_law_1181 : decode c_La_law 1181 = .ok (.iaload, 1) := by decide +kernel
theorem d_La_law_1182 : decode c_La_law 1182 = .ok (.aload_n 0, 1) := by decide +kernel
theorem d_La_law_1183 : decode c_La_law 1183 = .ok (.iload 4, 2) := by decide +kernel
theorem d_La_law_1185 : decode c_La_law 1185 = .ok (.iconst 2, 1) := by decide +kernel
theorem d_La_law_1186 : decode c_La_law 1186 = .ok (.iadd, 1) := by decide +kernel
theorem d_La_law_1187 : decode c_La_law 1187 = .ok (.iaload, 1) := by decide +kernel
theorem d_La_law_1188 : decode c_La_law 1188 = .ok (.invokevirtual 130, 3) := by decide +kernel
theorem d_La_law_1191 : decode c_La_law 1191 = .ok (.istore 6, 2) := by decide +kernel
theorem d_La_law_1193 : decode c_La_law 1193 = .ok (.aload_n 2, 1) := by decide +kernel
theorem d_La_law_1194 : decode c_La_law 1194 = .ok (.invokevirtual 78, 3) := by decide +kernel
theorem d_La_law_1197 : decode c_La_law 1197 = .ok (.iload 5, 2) := by decide +kernel
theorem d_La_law_1199 : decode c_La_law 1199 = .ok (.if_icmp .eq 5, 3) := by decide +kernel
theorem d_La_law_1202 : decode c_La_law 1202 = .ok (.iconst 0, 1) := by decide +kernel
theorem d_La_law_1203 : decode c_La_law 1203 = .ok (.ireturn, 1) := by decide +kernel
theorem d_La_law_1204 : decode c_La_law 1204 = .ok (.iload 5, 2) := by decide +kernel
theorem d_La_law_1206 : decode c_La_law 1206 = .ok (.ifCond .ne 15, 3) := by decide +kernel
theorem d_La_law_1209 : decode c_La_law 1209 = .ok (.aload_n 3, 1) := by decide +kernel
theorem d_La_law_1210 : decode c_La_law 1210 = .ok (.iconst 0, 1) := by decide +kernel
theorem d_La_law_1211 : decode c_La_law 1211 = .ok (.laload, 1) := by decide +kernel
theorem d_La_law_1212 : decode c_La_law 1212 = .ok (.iload 6, 2) := by decide +kernel
theorem d_La_law_1214 : decode c_La_law 1214 = .ok (.i2l, 1) := by decide +kernel
theorem d_La_law_1215 : decode c_La_law 1215 = .ok (.lcmp, 1) := by decide +kernel
theorem d_La_law_1216 : decode c_La_law 1216 = .ok (.ifCond .eq 5, 3) := by decide +kernel
theorem d_La_law_1219 : decode c_La_law 1219 = .ok (.iconst 0, 1) := by decide +kernel
theorem d_La_law_1220 : decode c_La_law 1220 = .ok (.ireturn, 1) := by decide +kernel
theorem d_La_law_1221 : decode c_La_law 1221 = .ok (.goto 16, 3) := by decide +kernel
theorem d_La_law_1224 : decode c_La_law 1224 = .ok (.aload_n 1, 1) := by decide +kernel
theorem d_La_law_1225 : decode c_La_law 1225 = .ok (.invokevirtual 131, 3) := by decide +kernel
theorem d_La_law_1228 : decode c_La_law 1228 = .ok (.aload_n 2, 1) := by decide +kernel
theorem d_La_law_1229 : decode c_La_law 1229 = .ok (.invokevirtual 134, 3) := by decide +kernel
theorem d_La_law_1232 : decode c_La_law 1232 = .ok (.if_icmp .eq 5, 3) := by decide +kernel
theorem d_La_law_1235 : decode c_La_law 1235 = .ok (.iconst 0, 1) := by decide +kernel
theorem d_La_law_1236 : decode c_La_law 1236 = .ok (.ireturn, 1) := by decide +kernel
theorem d_La_law_1237 : decode c_La_law 1237 = .ok (.iinc 4 6, 3) := by decide +kernel
theorem d_La_law_1240 : decode c_La_law 1240 = .ok (.goto (-1217), 3) := by decide +kernel
theorem d_La_law_1243 : decode c_La_law 1243 = .ok (.iconst 1, 1) := by decide +kernel
theorem d_La_law_1244 : decode c_La_law 1244 = .ok (.ireturn, 1) := by decide +kernel
