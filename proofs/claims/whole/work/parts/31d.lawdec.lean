theorem dl_768 : decode code 768 = .ok (.aload_n 0, 1) := by decide +kernel
theorem dl_769 : decode code 769 = .ok (.iload_n 3, 1) := by decide +kernel
theorem dl_770 : decode code 770 = .ok (.iconst 1, 1) := by decide +kernel
theorem dl_771 : decode code 771 = .ok (.iadd, 1) := by decide +kernel
theorem dl_772 : decode code 772 = .ok (.iaload, 1) := by decide +kernel
theorem dl_773 : decode code 773 = .ok (.aload_n 0, 1) := by decide +kernel
theorem dl_774 : decode code 774 = .ok (.iload_n 3, 1) := by decide +kernel
theorem dl_775 : decode code 775 = .ok (.iconst 2, 1) := by decide +kernel
theorem dl_776 : decode code 776 = .ok (.iadd, 1) := by decide +kernel
theorem dl_777 : decode code 777 = .ok (.iaload, 1) := by decide +kernel
theorem dl_778 : decode code 778 = .ok (.aload_n 0, 1) := by decide +kernel
theorem dl_779 : decode code 779 = .ok (.iload_n 3, 1) := by decide +kernel
theorem dl_780 : decode code 780 = .ok (.iconst 3, 1) := by decide +kernel
theorem dl_781 : decode code 781 = .ok (.iadd, 1) := by decide +kernel
theorem dl_782 : decode code 782 = .ok (.iaload, 1) := by decide +kernel
theorem dl_783 : decode code 783 = .ok (.invokevirtual 97, 3) := by decide +kernel
theorem dl_786 : decode code 786 = .ok (.aload_n 2, 1) := by decide +kernel
theorem dl_787 : decode code 787 = .ok (.aload_n 0, 1) := by decide +kernel
theorem dl_788 : decode code 788 = .ok (.iload_n 3, 1) := by decide +kernel
theorem dl_789 : decode code 789 = .ok (.iconst 1, 1) := by decide +kernel
theorem dl_790 : decode code 790 = .ok (.iadd, 1) := by decide +kernel
theorem dl_791 : decode code 791 = .ok (.iaload, 1) := by decide +kernel
theorem dl_792 : decode code 792 = .ok (.aload_n 0, 1) := by decide +kernel
theorem dl_793 : decode code 793 = .ok (.iload_n 3, 1) := by decide +kernel
theorem dl_794 : decode code 794 = .ok (.iconst 2, 1) := by decide +kernel
theorem dl_795 : decode code 795 = .ok (.iadd, 1) := by decide +kernel
theorem dl_796 : decode code 796 = .ok (.iaload, 1) := by decide +kernel
theorem dl_797 : decode code 797 = .ok (.aload_n 0, 1) := by decide +kernel
theorem dl_798 : decode code 798 = .ok (.iload_n 3, 1) := by decide +kernel
theorem dl_799 : decode code 799 = .ok (.iconst 3, 1) := by decide +kernel
theorem dl_800 : decode code 800 = .ok (.iadd, 1) := by decide +kernel
theorem dl_801 : decode code 801 = .ok (.iaload, 1) := by decide +kernel
theorem dl_802 : decode code 802 = .ok (.invokevirtual 100, 3) := by decide +kernel
theorem dl_805 : decode code 805 = .ok (.if_icmp .eq 170, 3) := by decide +kernel
theorem dl_808 : decode code 808 = .ok (.iconst 0, 1) := by decide +kernel
theorem dl_809 : decode code 809 = .ok (.ireturn, 1) := by decide +kernel
theorem dl_810 : decode code 810 = .ok (.aload_n 1, 1) := by decide +kernel
theorem dl_811 : decode code 811 = .ok (.aload_n 0, 1) := by decide +kernel
theorem dl_812 : decode code 812 = .ok (.iload_n 3, 1) := by decide +kernel
theorem dl_813 : decode code 813 = .ok (.iconst 1, 1) := by decide +kernel
theorem dl_814 : decode code 814 = .ok (.iadd, 1) := by decide +kernel
theorem dl_815 : decode code 815 = .ok (.iaload, 1) := by decide +kernel
theorem dl_816 : decode code 816 = .ok (.invokevirtual 101, 3) := by decide +kernel
theorem dl_819 : decode code 819 = .ok (.aload_n 2, 1) := by decide +kernel
theorem dl_820 : decode code 820 = .ok (.aload_n 0, 1) := by decide +kernel
theorem dl_821 : decode code 821 = .ok (.iload_n 3, 1) := by decide +kernel
theorem dl_822 : decode code 822 = .ok (.iconst 1, 1) := by decide +kernel
theorem dl_823 : decode code 823 = .ok (.iadd, 1) := by decide +kernel
theorem dl_824 : decode code 824 = .ok (.iaload, 1) := by decide +kernel
theorem dl_825 : decode code 825 = .ok (.invokevirtual 104, 3) := by decide +kernel
theorem dl_828 : decode code 828 = .ok (.if_icmp .eq 147, 3) := by decide +kernel
theorem dl_831 : decode code 831 = .ok (.iconst 0, 1) := by decide +kernel
theorem dl_832 : decode code 832 = .ok (.ireturn, 1) := by decide +kernel
theorem dl_833 : decode code 833 = .ok (.aload_n 1, 1) := by decide +kernel
theorem dl_834 : decode code 834 = .ok (.invokevirtual 105, 3) := by decide +kernel
theorem dl_837 : decode code 837 = .ok (.aload_n 2, 1) := by decide +kernel
theorem dl_838 : decode code 838 = .ok (.invokevirtual 108, 3) := by decide +kernel
theorem dl_841 : decode code 841 = .ok (.if_icmp .eq 134, 3) := by decide +kernel
theorem dl_844 : decode code 844 = .ok (.iconst 0, 1) := by decide +kernel
theorem dl_845 : decode code 845 = .ok (.ireturn, 1) := by decide +kernel
theorem dl_846 : decode code 846 = .ok (.aload_n 1, 1) := by decide +kernel
theorem dl_847 : decode code 847 = .ok (.invokevirtual 109, 3) := by decide +kernel
theorem dl_850 : decode code 850 = .ok (.aload_n 2, 1) := by decide +kernel
theorem dl_851 : decode code 851 = .ok (.invokevirtual 112, 3) := by decide +kernel
theorem dl_854 : decode code 854 = .ok (.if_icmp .eq 121, 3) := by decide +kernel
theorem dl_857 : decode code 857 = .ok (.iconst 0, 1) := by decide +kernel
theorem dl_858 : decode code 858 = .ok (.ireturn, 1) := by decide +kernel
theorem dl_859 : decode code 859 = .ok (.aload_n 1, 1) := by decide +kernel
theorem dl_860 : decode code 860 = .ok (.aload_n 0, 1) := by decide +kernel
theorem dl_861 : decode code 861 = .ok (.iload_n 3, 1) := by decide +kernel
theorem dl_862 : decode code 862 = .ok (.iconst 1, 1) := by decide +kernel
theorem dl_863 : decode code 863 = .ok (.iadd, 1) := by decide +kernel
theorem dl_864 : decode code 864 = .ok (.iaload, 1) := by decide +kernel
theorem dl_865 : decode code 865 = .ok (.aload_n 0, 1) := by decide +kernel
theorem dl_866 : decode code 866 = .ok (.iload_n 3, 1) := by decide +kernel
theorem dl_867 : decode code 867 = .ok (.iconst 2, 1) := by decide +kernel
theorem dl_868 : decode code 868 = .ok (.iadd, 1) := by decide +kernel
theorem dl_869 : decode code 869 = .ok (.iaload, 1) := by decide +kernel
theorem dl_870 : decode code 870 = .ok (.aload_n 0, 1) := by decide +kernel
theorem dl_871 : decode code 871 = .ok (.iload_n 3, 1) := by decide +kernel
theorem dl_872 : decode code 872 = .ok (.iconst 3, 1) := by decide +kernel
theorem dl_873 : decode code 873 = .ok (.iadd, 1) := by decide +kernel
theorem dl_874 : decode code 874 = .ok (.iaload, 1) := by decide +kernel
theorem dl_875 : decode code 875 = .ok (.aload_n 0, 1) := by decide +kernel
theorem dl_876 : decode code 876 = .ok (.iload_n 3, 1) := by decide +kernel
theorem dl_877 : decode code 877 = .ok (.iconst 4, 1) := by decide +kernel
theorem dl_878 : decode code 878 = .ok (.iadd, 1) := by decide +kernel
theorem dl_879 : decode code 879 = .ok (.iaload, 1) := by decide +kernel
theorem dl_880 : decode code 880 = .ok (.invokevirtual 113, 3) := by decide +kernel
theorem dl_883 : decode code 883 = .ok (.aload_n 2, 1) := by decide +kernel
theorem dl_884 : decode code 884 = .ok (.aload_n 0, 1) := by decide +kernel
theorem dl_885 : decode code 885 = .ok (.iload_n 3, 1) := by decide +kernel
theorem dl_886 : decode code 886 = .ok (.iconst 1, 1) := by decide +kernel
theorem dl_887 : decode code 887 = .ok (.iadd, 1) := by decide +kernel
theorem dl_888 : decode code 888 = .ok (.iaload, 1) := by decide +kernel
theorem dl_889 : decode code 889 = .ok (.aload_n 0, 1) := by decide +kernel
theorem dl_890 : decode code 890 = .ok (.iload_n 3, 1) := by decide +kernel
theorem dl_891 : decode code 891 = .ok (.iconst 2, 1) := by decide +kernel
theorem dl_892 : decode code 892 = .ok (.iadd, 1) := by decide +kernel
theorem dl_893 : decode code 893 = .ok (.iaload, 1) := by decide +kernel
theorem dl_894 : decode code 894 = .ok (.aload_n 0, 1) := by decide +kernel
theorem dl_895 : decode code 895 = .ok (.iload_n 3, 1) := by decide +kernel
theorem dl_896 : decode code 896 = .ok (.iconst 3, 1) := by decide +kernel
theorem dl_897 : decode code 897 = .ok (.iadd, 1) := by decide +kernel
theorem dl_898 : decode code 898 = .ok (.iaload, 1) := by decide +kernel
theorem dl_899 : decode code 899 = .ok (.aload_n 0, 1) := by decide +kernel
theorem dl_900 : decode code 900 = .ok (.iload_n 3, 1) := by decide +kernel
theorem dl_901 : decode code 901 = .ok (.iconst 4, 1) := by decide +kernel
theorem dl_902 : decode code 902 = .ok (.iadd, 1) := by decide +kernel
theorem dl_903 : decode code 903 = .ok (.iaload, 1) := by decide +kernel
theorem dl_904 : decode code 904 = .ok (.invokevirtual 117, 3) := by decide +kernel
theorem dl_907 : decode code 907 = .ok (.if_icmp .eq 68, 3) := by decide +kernel
theorem dl_910 : decode code 910 = .ok (.iconst 0, 1) := by decide +kernel
theorem dl_911 : decode code 911 = .ok (.ireturn, 1) := by decide +kernel
theorem dl_912 : decode code 912 = .ok (.aload_n 1, 1) := by decide +kernel
theorem dl_913 : decode code 913 = .ok (.invokevirtual 118, 3) := by decide +kernel
theorem dl_916 : decode code 916 = .ok (.aload_n 2, 1) := by decide +kernel
theorem dl_917 : decode code 917 = .ok (.invokevirtual 121, 3) := by decide +kernel
theorem dl_920 : decode code 920 = .ok (.if_icmp .eq 55, 3) := by decide +kernel
theorem dl_923 : decode code 923 = .ok (.iconst 0, 1) := by decide +kernel
theorem dl_924 : decode code 924 = .ok (.ireturn, 1) := by decide +kernel
theorem dl_925 : decode code 925 = .ok (.aload_n 1, 1) := by decide +kernel
theorem dl_926 : decode code 926 = .ok (.invokevirtual 122, 3) := by decide +kernel
theorem dl_929 : decode code 929 = .ok (.aload_n 2, 1) := by decide +kernel
theorem dl_930 : decode code 930 = .ok (.invokevirtual 125, 3) := by decide +kernel
theorem dl_933 : decode code 933 = .ok (.if_icmp .eq 42, 3) := by decide +kernel
theorem dl_936 : decode code 936 = .ok (.iconst 0, 1) := by decide +kernel
theorem dl_937 : decode code 937 = .ok (.ireturn, 1) := by decide +kernel
theorem dl_938 : decode code 938 = .ok (.aload_n 1, 1) := by decide +kernel
theorem dl_939 : decode code 939 = .ok (.aload_n 0, 1) := by decide +kernel
theorem dl_940 : decode code 940 = .ok (.iload_n 3, 1) := by decide +kernel
theorem dl_941 : decode code 941 = .ok (.iconst 1, 1) := by decide +kernel
theorem dl_942 : decode code 942 = .ok (.iadd, 1) := by decide +kernel
theorem dl_943 : decode code 943 = .ok (.iaload, 1) := by decide +kernel
theorem dl_944 : decode code 944 = .ok (.invokevirtual 126, 3) := by decide +kernel
theorem dl_947 : decode code 947 = .ok (.aload_n 2, 1) := by decide +kernel
theorem dl_948 : decode code 948 = .ok (.aload_n 0, 1) := by decide +kernel
theorem dl_949 : decode code 949 = .ok (.iload_n 3, 1) := by decide +kernel
theorem dl_950 : decode code 950 = .ok (.iconst 1, 1) := by decide +kernel
theorem dl_951 : decode code 951 = .ok (.iadd, 1) := by decide +kernel
theorem dl_952 : decode code 952 = .ok (.iaload, 1) := by decide +kernel
theorem dl_953 : decode code 953 = .ok (.invokevirtual 129, 3) := by decide +kernel
theorem dl_956 : decode code 956 = .ok (.if_icmp .eq 19, 3) := by decide +kernel
theorem dl_959 : decode code 959 = .ok (.iconst 0, 1) := by decide +kernel
theorem dl_960 : decode code 960 = .ok (.ireturn, 1) := by decide +kernel
theorem dl_961 : decode code 961 = .ok (.aload_n 1, 1) := by decide +kernel
theorem dl_962 : decode code 962 = .ok (.invokevirtual 130, 3) := by decide +kernel
theorem dl_965 : decode code 965 = .ok (.aload_n 2, 1) := by decide +kernel
theorem dl_966 : decode code 966 = .ok (.invokevirtual 134, 3) := by decide +kernel
theorem dl_969 : decode code 969 = .ok (.lcmp, 1) := by decide +kernel
theorem dl_970 : decode code 970 = .ok (.ifCond .eq 5, 3) := by decide +kernel
theorem dl_973 : decode code 973 = .ok (.iconst 0, 1) := by decide +kernel
theorem dl_974 : decode code 974 = .ok (.ireturn, 1) := by decide +kernel
theorem dl_975 : decode code 975 = .ok (.iinc 3 6, 3) := by decide +kernel
theorem dl_978 : decode code 978 = .ok (.goto (-960), 3) := by decide +kernel
theorem dl_981 : decode code 981 = .ok (.iconst 1, 1) := by decide +kernel
theorem dl_982 : decode code 982 = .ok (.ireturn, 1) := by decide +kernel
