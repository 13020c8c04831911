theorem dL_law_760 : decode cL_law 760 = .ok (.iadd, 1) := dq_96 dp_cL_law rfl
theorem dL_law_761 : decode cL_law 761 = .ok (.iaload, 1) := dq_46 dp_cL_law rfl
theorem dL_law_762 : decode cL_law 762 = .ok (.aload_n 0, 1) := dq_42 dp_cL_law rfl
theorem dL_law_763 : decode cL_law 763 = .ok (.iload_n 3, 1) := dq_29 dp_cL_law rfl
theorem dL_law_764 : decode cL_law 764 = .ok (.iconst 3, 1) := dq_6 dp_cL_law rfl
theorem dL_law_765 : decode cL_law 765 = .ok (.iadd, 1) := dq_96 dp_cL_law rfl
theorem dL_law_766 : decode cL_law 766 = .ok (.iaload, 1) := dq_46 dp_cL_law rfl
theorem dL_law_767 : decode cL_law 767 = .ok (.invokevirtual 83, 3) := dq_182 dp_cL_law rfl
theorem dL_law_770 : decode cL_law 770 = .ok (.pop, 1) := dq_87 dp_cL_law rfl
theorem dL_law_771 : decode cL_law 771 = .ok (.aload_n 2, 1) := dq_44 dp_cL_law rfl
theorem dL_law_772 : decode cL_law 772 = .ok (.aload_n 0, 1) := dq_42 dp_cL_law rfl
theorem dL_law_773 : decode cL_law 773 = .ok (.iload_n 3, 1) := dq_29 dp_cL_law rfl
theorem dL_law_774 : decode cL_law 774 = .ok (.iconst 1, 1) := dq_4 dp_cL_law rfl
theorem dL_law_775 : decode cL_law 775 = .ok (.iadd, 1) := dq_96 dp_cL_law rfl
theorem dL_law_776 : decode cL_law 776 = .ok (.iaload, 1) := dq_46 dp_cL_law rfl
theorem dL_law_777 : decode cL_law 777 = .ok (.aload_n 0, 1) := dq_42 dp_cL_law rfl
theorem dL_law_778 : decode cL_law 778 = .ok (.iload_n 3, 1) := dq_29 dp_cL_law rfl
theorem dL_law_779 : decode cL_law 779 = .ok (.iconst 2, 1) := dq_5 dp_cL_law rfl
theorem dL_law_780 : decode cL_law 780 = .ok (.iadd, 1) := dq_96 dp_cL_law rfl
theorem dL_law_781 : decode cL_law 781 = .ok (.iaload, 1) := dq_46 dp_cL_law rfl
theorem dL_law_782 : decode cL_law 782 = .ok (.aload_n 0, 1) := dq_42 dp_cL_law rfl
theorem dL_law_783 : decode cL_law 783 = .ok (.iload_n 3, 1) := dq_29 dp_cL_law rfl
theorem dL_law_784 : decode cL_law 784 = .ok (.iconst 3, 1) := dq_6 dp_cL_law rfl
theorem dL_law_785 : decode cL_law 785 = .ok (.iadd, 1) := dq_96 dp_cL_law rfl
theorem dL_law_786 : decode cL_law 786 = .ok (.iaload, 1) := dq_46 dp_cL_law rfl
theorem dL_law_787 : decode cL_law 787 = .ok (.invokevirtual 86, 3) := dq_182 dp_cL_law rfl
theorem dL_law_790 : decode cL_law 790 = .ok (.pop, 1) := dq_87 dp_cL_law rfl
theorem dL_law_791 : decode cL_law 791 = .ok (.goto 579, 3) := dq_167 (v := 579) dp_cL_law rfl rfl
theorem dL_law_794 : decode cL_law 794 = .ok (.aload_n 1, 1) := dq_43 dp_cL_law rfl
theorem dL_law_795 : decode cL_law 795 = .ok (.aload_n 0, 1) := dq_42 dp_cL_law rfl
theorem dL_law_796 : decode cL_law 796 = .ok (.iload_n 3, 1) := dq_29 dp_cL_law rfl
theorem dL_law_797 : decode cL_law 797 = .ok (.iconst 1, 1) := dq_4 dp_cL_law rfl
theorem dL_law_798 : decode cL_law 798 = .ok (.iadd, 1) := dq_96 dp_cL_law rfl
theorem dL_law_799 : decode cL_law 799 = .ok (.iaload, 1) := dq_46 dp_cL_law rfl
theorem dL_law_800 : decode cL_law 800 = .ok (.aload_n 0, 1) := dq_42 dp_cL_law rfl
theorem dL_law_801 : decode cL_law 801 = .ok (.iload_n 3, 1) := dq_29 dp_cL_law rfl
theorem dL_law_802 : decode cL_law 802 = .ok (.iconst 2, 1) := dq_5 dp_cL_law rfl
theorem dL_law_803 : decode cL_law 803 = .ok (.iadd, 1) := dq_96 dp_cL_law rfl
theorem dL_law_804 : decode cL_law 804 = .ok (.iaload, 1) := dq_46 dp_cL_law rfl
theorem dL_law_805 : decode cL_law 805 = .ok (.invokevirtual 87, 3) := dq_182 dp_cL_law rfl
theorem dL_law_808 : decode cL_law 808 = .ok (.pop, 1) := dq_87 dp_cL_law rfl
theorem dL_law_809 : decode cL_law 809 = .ok (.aload_n 2, 1) := dq_44 dp_cL_law rfl
theorem dL_law_810 : decode cL_law 810 = .ok (.aload_n 0, 1) := dq_42 dp_cL_law rfl
theorem dL_law_811 : decode cL_law 811 = .ok (.iload_n 3, 1) := dq_29 dp_cL_law rfl
theorem dL_law_812 : decode cL_law 812 = .ok (.iconst 1, 1) := dq_4 dp_cL_law rfl
theorem dL_law_813 : decode cL_law 813 = .ok (.iadd, 1) := dq_96 dp_cL_law rfl
theorem dL_law_814 : decode cL_law 814 = .ok (.iaload, 1) := dq_46 dp_cL_law rfl
theorem dL_law_815 : decode cL_law 815 = .ok (.aload_n 0, 1) := dq_42 dp_cL_law rfl
theorem dL_law_816 : decode cL_law 816 = .ok (.iload_n 3, 1) := dq_29 dp_cL_law rfl
theorem dL_law_817 : decode cL_law 817 = .ok (.iconst 2, 1) := dq_5 dp_cL_law rfl
theorem dL_law_818 : decode cL_law 818 = .ok (.iadd, 1) := dq_96 dp_cL_law rfl
theorem dL_law_819 : decode cL_law 819 = .ok (.iaload, 1) := dq_46 dp_cL_law rfl
theorem dL_law_820 : decode cL_law 820 = .ok (.invokevirtual 90, 3) := dq_182 dp_cL_law rfl
theorem dL_law_823 : decode cL_law 823 = .ok (.pop, 1) := dq_87 dp_cL_law rfl
theorem dL_law_824 : decode cL_law 824 = .ok (.goto 546, 3) := dq_167 (v := 546) dp_cL_law rfl rfl
theorem dL_law_827 : decode cL_law 827 = .ok (.aload_n 1, 1) := dq_43 dp_cL_law rfl
theorem dL_law_828 : decode cL_law 828 = .ok (.aload_n 0, 1) := dq_42 dp_cL_law rfl
theorem dL_law_829 : decode cL_law 829 = .ok (.iload_n 3, 1) := dq_29 dp_cL_law rfl
theorem dL_law_830 : decode cL_law 830 = .ok (.iconst 1, 1) := dq_4 dp_cL_law rfl
theorem dL_law_831 : decode cL_law 831 = .ok (.iadd, 1) := dq_96 dp_cL_law rfl
theorem dL_law_832 : decode cL_law 832 = .ok (.iaload, 1) := dq_46 dp_cL_law rfl
theorem dL_law_833 : decode cL_law 833 = .ok (.aload_n 0, 1) := dq_42 dp_cL_law rfl
theorem dL_law_834 : decode cL_law 834 = .ok (.iload_n 3, 1) := dq_29 dp_cL_law rfl
theorem dL_law_835 : decode cL_law 835 = .ok (.iconst 2, 1) := dq_5 dp_cL_law rfl
theorem dL_law_836 : decode cL_law 836 = .ok (.iadd, 1) := dq_96 dp_cL_law rfl
theorem dL_law_837 : decode cL_law 837 = .ok (.iaload, 1) := dq_46 dp_cL_law rfl
theorem dL_law_838 : decode cL_law 838 = .ok (.invokevirtual 91, 3) := dq_182 dp_cL_law rfl
theorem dL_law_841 : decode cL_law 841 = .ok (.pop, 1) := dq_87 dp_cL_law rfl
theorem dL_law_842 : decode cL_law 842 = .ok (.aload_n 2, 1) := dq_44 dp_cL_law rfl
theorem dL_law_843 : decode cL_law 843 = .ok (.aload_n 0, 1) := dq_42 dp_cL_law rfl
theorem dL_law_844 : decode cL_law 844 = .ok (.iload_n 3, 1) := dq_29 dp_cL_law rfl
theorem dL_law_845 : decode cL_law 845 = .ok (.iconst 1, 1) := dq_4 dp_cL_law rfl
theorem dL_law_846 : decode cL_law 846 = .ok (.iadd, 1) := dq_96 dp_cL_law rfl
theorem dL_law_847 : decode cL_law 847 = .ok (.iaload, 1) := dq_46 dp_cL_law rfl
theorem dL_law_848 : decode cL_law 848 = .ok (.aload_n 0, 1) := dq_42 dp_cL_law rfl
theorem dL_law_849 : decode cL_law 849 = .ok (.iload_n 3, 1) := dq_29 dp_cL_law rfl
theorem dL_law_850 : decode cL_law 850 = .ok (.iconst 2, 1) := dq_5 dp_cL_law rfl
theorem dL_law_851 : decode cL_law 851 = .ok (.iadd, 1) := dq_96 dp_cL_law rfl
theorem dL_law_852 : decode cL_law 852 = .ok (.iaload, 1) := dq_46 dp_cL_law rfl
theorem dL_law_853 : decode cL_law 853 = .ok (.invokevirtual 94, 3) := dq_182 dp_cL_law rfl
theorem dL_law_856 : decode cL_law 856 = .ok (.pop, 1) := dq_87 dp_cL_law rfl
theorem dL_law_857 : decode cL_law 857 = .ok (.goto 513, 3) := dq_167 (v := 513) dp_cL_law rfl rfl
theorem dL_law_860 : decode cL_law 860 = .ok (.aload_n 1, 1) := dq_43 dp_cL_law rfl
theorem dL_law_861 : decode cL_law 861 = .ok (.aload_n 0, 1) := dq_42 dp_cL_law rfl
theorem dL_law_862 : decode cL_law 862 = .ok (.iload_n 3, 1) := dq_29 dp_cL_law rfl
theorem dL_law_863 : decode cL_law 863 = .ok (.iconst 1, 1) := dq_4 dp_cL_law rfl
theorem dL_law_864 : decode cL_law 864 = .ok (.iadd, 1) := dq_96 dp_cL_law rfl
theorem dL_law_865 : decode cL_law 865 = .ok (.iaload, 1) := dq_46 dp_cL_law rfl
theorem dL_law_866 : decode cL_law 866 = .ok (.aload_n 0, 1) := dq_42 dp_cL_law rfl
theorem dL_law_867 : decode cL_law 867 = .ok (.iload_n 3, 1) := dq_29 dp_cL_law rfl
theorem dL_law_868 : decode cL_law 868 = .ok (.iconst 2, 1) := dq_5 dp_cL_law rfl
theorem dL_law_869 : decode cL_law 869 = .ok (.iadd, 1) := dq_96 dp_cL_law rfl
theorem dL_law_870 : decode cL_law 870 = .ok (.iaload, 1) := dq_46 dp_cL_law rfl
theorem dL_law_871 : decode cL_law 871 = .ok (.invokevirtual 95, 3) := dq_182 dp_cL_law rfl
theorem dL_law_874 : decode cL_law 874 = .ok (.pop, 1) := dq_87 dp_cL_law rfl
theorem dL_law_875 : decode cL_law 875 = .ok (.aload_n 2, 1) := dq_44 dp_cL_law rfl
theorem dL_law_876 : decode cL_law 876 = .ok (.aload_n 0, 1) := dq_42 dp_cL_law rfl
theorem dL_law_877 : decode cL_law 877 = .ok (.iload_n 3, 1) := dq_29 dp_cL_law rfl
theorem dL_law_878 : decode cL_law 878 = .ok (.iconst 1, 1) := dq_4 dp_cL_law rfl
theorem dL_law_879 : decode cL_law 879 = .ok (.iadd, 1) := dq_96 dp_cL_law rfl
theorem dL_law_880 : decode cL_law 880 = .ok (.iaload, 1) := dq_46 dp_cL_law rfl
theorem dL_law_881 : decode cL_law 881 = .ok (.aload_n 0, 1) := dq_42 dp_cL_law rfl
theorem dL_law_882 : decode cL_law 882 = .ok (.iload_n 3, 1) := dq_29 dp_cL_law rfl
theorem dL_law_883 : decode cL_law 883 = .ok (.iconst 2, 1) := dq_5 dp_cL_law rfl
theorem dL_law_884 : decode cL_law 884 = .ok (.iadd, 1) := dq_96 dp_cL_law rfl
theorem dL_law_885 : decode cL_law 885 = .ok (.iaload, 1) := dq_46 dp_cL_law rfl
theorem dL_law_886 : decode cL_law 886 = .ok (.invokevirtual 98, 3) := dq_182 dp_cL_law rfl
theorem dL_law_889 : decode cL_law 889 = .ok (.pop, 1) := dq_87 dp_cL_law rfl
theorem dL_law_890 : decode cL_law 890 = .ok (.goto 480, 3) := dq_167 (v := 480) dp_cL_law rfl rfl
theorem dL_law_893 : decode cL_law 893 = .ok (.aload_n 1, 1) := dq_43 dp_cL_law rfl
theorem dL_law_894 : decode cL_law 894 = .ok (.aload_n 0, 1) := dq_42 dp_cL_law rfl
theorem dL_law_895 : decode cL_law 895 = .ok (.iload_n 3, 1) := dq_29 dp_cL_law rfl
theorem dL_law_896 : decode cL_law 896 = .ok (.iconst 1, 1) := dq_4 dp_cL_law rfl
theorem dL_law_897 : decode cL_law 897 = .ok (.iadd, 1) := dq_96 dp_cL_law rfl
theorem dL_law_898 : decode cL_law 898 = .ok (.iaload, 1) := dq_46 dp_cL_law rfl
theorem dL_law_899 : decode cL_law 899 = .ok (.aload_n 0, 1) := dq_42 dp_cL_law rfl
theorem dL_law_900 : decode cL_law 900 = .ok (.iload_n 3, 1) := dq_29 dp_cL_law rfl
theorem dL_law_901 : decode cL_law 901 = .ok (.iconst 2, 1) := dq_5 dp_cL_law rfl
theorem dL_law_902 : decode cL_law 902 = .ok (.iadd, 1) := dq_96 dp_cL_law rfl
theorem dL_law_903 : decode cL_law 903 = .ok (.iaload, 1) := dq_46 dp_cL_law rfl
theorem dL_law_904 : decode cL_law 904 = .ok (.invokevirtual 99, 3) := dq_182 dp_cL_law rfl
theorem dL_law_907 : decode cL_law 907 = .ok (.pop, 1) := dq_87 dp_cL_law rfl
theorem dL_law_908 : decode cL_law 908 = .ok (.aload_n 2, 1) := dq_44 dp_cL_law rfl
theorem dL_law_909 : decode cL_law 909 = .ok (.aload_n 0, 1) := dq_42 dp_cL_law rfl
theorem dL_law_910 : decode cL_law 910 = .ok (.iload_n 3, 1) := dq_29 dp_cL_law rfl
theorem dL_law_911 : decode cL_law 911 = .ok (.iconst 1, 1) := dq_4 dp_cL_law rfl
theorem dL_law_912 : decode cL_law 912 = .ok (.iadd, 1) := dq_96 dp_cL_law rfl
theorem dL_law_913 : decode cL_law 913 = .ok (.iaload, 1) := dq_46 dp_cL_law rfl
theorem dL_law_914 : decode cL_law 914 = .ok (.aload_n 0, 1) := dq_42 dp_cL_law rfl
theorem dL_law_915 : decode cL_law 915 = .ok (.iload_n 3, 1) := dq_29 dp_cL_law rfl
theorem dL_law_916 : decode cL_law 916 = .ok (.iconst 2, 1) := dq_5 dp_cL_law rfl
theorem dL_law_917 : decode cL_law 917 = .ok (.iadd, 1) := dq_96 dp_cL_law rfl
theorem dL_law_918 : decode cL_law 918 = .ok (.iaload, 1) := dq_46 dp_cL_law rfl
theorem dL_law_919 : decode cL_law 919 = .ok (.invokevirtual 102, 3) := dq_182 dp_cL_law rfl
theorem dL_law_922 : decode cL_law 922 = .ok (.pop, 1) := dq_87 dp_cL_law rfl
theorem dL_law_923 : decode cL_law 923 = .ok (.goto 447, 3) := dq_167 (v := 447) dp_cL_law rfl rfl
theorem dL_law_926 : decode cL_law 926 = .ok (.aload_n 1, 1) := dq_43 dp_cL_law rfl
theorem dL_law_927 : decode cL_law 927 = .ok (.aload_n 0, 1) := dq_42 dp_cL_law rfl
theorem dL_law_928 : decode cL_law 928 = .ok (.iload_n 3, 1) := dq_29 dp_cL_law rfl
theorem dL_law_929 : decode cL_law 929 = .ok (.iconst 1, 1) := dq_4 dp_cL_law rfl
theorem dL_law_930 : decode cL_law 930 = .ok (.iadd, 1) := dq_96 dp_cL_law rfl
theorem dL_law_931 : decode cL_law 931 = .ok (.iaload, 1) := dq_46 dp_cL_law rfl
theorem dL_law_932 : decode cL_law 932 = .ok (.invokevirtual 103, 3) := dq_182 dp_cL_law rfl
theorem dL_law_935 : decode cL_law 935 = .ok (.pop, 1) := dq_87 dp_cL_law rfl
theorem dL_law_936 : decode cL_law 936 = .ok (.aload_n 2, 1) := dq_44 dp_cL_law rfl
theorem dL_law_937 : decode cL_law 937 = .ok (.aload_n 0, 1) := dq_42 dp_cL_law rfl
theorem dL_law_938 : decode cL_law 938 = .ok (.iload_n 3, 1) := dq_29 dp_cL_law rfl
theorem dL_law_939 : decode cL_law 939 = .ok (.iconst 1, 1) := dq_4 dp_cL_law rfl
theorem dL_law_940 : decode cL_law 940 = .ok (.iadd, 1) := dq_96 dp_cL_law rfl
theorem dL_law_941 : decode cL_law 941 = .ok (.iaload, 1) := dq_46 dp_cL_law rfl
theorem dL_law_942 : decode cL_law 942 = .ok (.invokevirtual 106, 3) := dq_182 dp_cL_law rfl
theorem dL_law_945 : decode cL_law 945 = .ok (.pop, 1) := dq_87 dp_cL_law rfl
theorem dL_law_946 : decode cL_law 946 = .ok (.goto 424, 3) := dq_167 (v := 424) dp_cL_law rfl rfl
theorem dL_law_949 : decode cL_law 949 = .ok (.aload_n 1, 1) := dq_43 dp_cL_law rfl
theorem dL_law_950 : decode cL_law 950 = .ok (.aload_n 0, 1) := dq_42 dp_cL_law rfl
theorem dL_law_951 : decode cL_law 951 = .ok (.iload_n 3, 1) := dq_29 dp_cL_law rfl
theorem dL_law_952 : decode cL_law 952 = .ok (.iconst 1, 1) := dq_4 dp_cL_law rfl
theorem dL_law_953 : decode cL_law 953 = .ok (.iadd, 1) := dq_96 dp_cL_law rfl
theorem dL_law_954 : decode cL_law 954 = .ok (.iaload, 1) := dq_46 dp_cL_law rfl
theorem dL_law_955 : decode cL_law 955 = .ok (.aload_n 0, 1) := dq_42 dp_cL_law rfl
theorem dL_law_956 : decode cL_law 956 = .ok (.iload_n 3, 1) := dq_29 dp_cL_law rfl
theorem dL_law_957 : decode cL_law 957 = .ok (.iconst 2, 1) := dq_5 dp_cL_law rfl
theorem dL_law_958 : decode cL_law 958 = .ok (.iadd, 1) := dq_96 dp_cL_law rfl
theorem dL_law_959 : decode cL_law 959 = .ok (.iaload, 1) := dq_46 dp_cL_law rfl
theorem dL_law_960 : decode cL_law 960 = .ok (.aload_n 0, 1) := dq_42 dp_cL_law rfl
theorem dL_law_961 : decode cL_law 961 = .ok (.iload_n 3, 1) := dq_29 dp_cL_law rfl
theorem dL_law_962 : decode cL_law 962 = .ok (.iconst 3, 1) := dq_6 dp_cL_law rfl
theorem dL_law_963 : decode cL_law 963 = .ok (.iadd, 1) := dq_96 dp_cL_law rfl
theorem dL_law_964 : decode cL_law 964 = .ok (.iaload, 1) := dq_46 dp_cL_law rfl
theorem dL_law_965 : decode cL_law 965 = .ok (.invokevirtual 107, 3) := dq_182 dp_cL_law rfl
theorem dL_law_968 : decode cL_law 968 = .ok (.pop, 1) := dq_87 dp_cL_law rfl
theorem dL_law_969 : decode cL_law 969 = .ok (.aload_n 2, 1) := dq_44 dp_cL_law rfl
theorem dL_law_970 : decode cL_law 970 = .ok (.aload_n 0, 1) := dq_42 dp_cL_law rfl
theorem dL_law_971 : decode cL_law 971 = .ok (.iload_n 3, 1) := dq_29 dp_cL_law rfl
theorem dL_law_972 : decode cL_law 972 = .ok (.iconst 1, 1) := dq_4 dp_cL_law rfl
theorem dL_law_973 : decode cL_law 973 = .ok (.iadd, 1) := dq_96 dp_cL_law rfl
theorem dL_law_974 : decode cL_law 974 = .ok (.iaload, 1) := dq_46 dp_cL_law rfl
theorem dL_law_975 : decode cL_law 975 = .ok (.aload_n 0, 1) := dq_42 dp_cL_law rfl
theorem dL_law_976 : decode cL_law 976 = .ok (.iload_n 3, 1) := dq_29 dp_cL_law rfl
theorem dL_law_977 : decode cL_law 977 = .ok (.iconst 2, 1) := dq_5 dp_cL_law rfl
theorem dL_law_978 : decode cL_law 978 = .ok (.iadd, 1) := dq_96 dp_cL_law rfl
theorem dL_law_979 : decode cL_law 979 = .ok (.iaload, 1) := dq_46 dp_cL_law rfl
theorem dL_law_980 : decode cL_law 980 = .ok (.aload_n 0, 1) := dq_42 dp_cL_law rfl
theorem dL_law_981 : decode cL_law 981 = .ok (.iload_n 3, 1) := dq_29 dp_cL_law rfl
theorem dL_law_982 : decode cL_law 982 = .ok (.iconst 3, 1) := dq_6 dp_cL_law rfl
theorem dL_law_983 : decode cL_law 983 = .ok (.iadd, 1) := dq_96 dp_cL_law rfl
theorem dL_law_984 : decode cL_law 984 = .ok (.iaload, 1) := dq_46 dp_cL_law rfl
theorem dL_law_985 : decode cL_law 985 = .ok (.invokevirtual 110, 3) := dq_182 dp_cL_law rfl
theorem dL_law_988 : decode cL_law 988 = .ok (.pop, 1) := dq_87 dp_cL_law rfl
theorem dL_law_989 : decode cL_law 989 = .ok (.goto 381, 3) := dq_167 (v := 381) dp_cL_law rfl rfl
theorem dL_law_992 : decode cL_law 992 = .ok (.aload_n 1, 1) := dq_43 dp_cL_law rfl
theorem dL_law_993 : decode cL_law 993 = .ok (.aload_n 0, 1) := dq_42 dp_cL_law rfl
theorem dL_law_994 : decode cL_law 994 = .ok (.iload_n 3, 1) := dq_29 dp_cL_law rfl
theorem dL_law_995 : decode cL_law 995 = .ok (.iconst 1, 1) := dq_4 dp_cL_law rfl
theorem dL_law_996 : decode cL_law 996 = .ok (.iadd, 1) := dq_96 dp_cL_law rfl
theorem dL_law_997 : decode cL_law 997 = .ok (.iaload, 1) := dq_46 dp_cL_law rfl
theorem dL_law_998 : decode cL_law 998 = .ok (.invokevirtual 111, 3) := dq_182 dp_cL_law rfl
theorem dL_law_1001 : decode cL_law 1001 = .ok (.pop, 1) := dq_87 dp_cL_law rfl
theorem dL_law_1002 : decode cL_law 1002 = .ok (.aload_n 2, 1) := dq_44 dp_cL_law rfl
theorem dL_law_1003 : decode cL_law 1003 = .ok (.aload_n 0, 1) := dq_42 dp_cL_law rfl
theorem dL_law_1004 : decode cL_law 1004 = .ok (.iload_n 3, 1) := dq_29 dp_cL_law rfl
theorem dL_law_1005 : decode cL_law 1005 = .ok (.iconst 1, 1) := dq_4 dp_cL_law rfl
theorem dL_law_1006 : decode cL_law 1006 = .ok (.iadd, 1) := dq_96 dp_cL_law rfl
theorem dL_law_1007 : decode cL_law 1007 = .ok (.iaload, 1) := dq_46 dp_cL_law rfl
theorem dL_law_1008 : decode cL_law 1008 = .ok (.invokevirtual 114, 3) := dq_182 dp_cL_law rfl
theorem dL_law_1011 : decode cL_law 1011 = .ok (.pop, 1) := dq_87 dp_cL_law rfl
theorem dL_law_1012 : decode cL_law 1012 = .ok (.goto 358, 3) := dq_167 (v := 358) dp_cL_law rfl rfl
theorem dL_law_1015 : decode cL_law 1015 = .ok (.aload_n 1, 1) := dq_43 dp_cL_law rfl
theorem dL_law_1016 : decode cL_law 1016 = .ok (.aload_n 0, 1) := dq_42 dp_cL_law rfl
theorem dL_law_1017 : decode cL_law 1017 = .ok (.iload_n 3, 1) := dq_29 dp_cL_law rfl
theorem dL_law_1018 : decode cL_law 1018 = .ok (.iconst 1, 1) := dq_4 dp_cL_law rfl
theorem dL_law_1019 : decode cL_law 1019 = .ok (.iadd, 1) := dq_96 dp_cL_law rfl
theorem dL_law_1020 : decode cL_law 1020 = .ok (.iaload, 1) := dq_46 dp_cL_law rfl
theorem dL_law_1021 : decode cL_law 1021 = .ok (.invokevirtual 115, 3) := dq_182 dp_cL_law rfl
theorem dL_law_1024 : decode cL_law 1024 = .ok (.pop, 1) := dq_87 dp_cL_law rfl
theorem dL_law_1025 : decode cL_law 1025 = .ok (.aload_n 2, 1) := dq_44 dp_cL_law rfl
theorem dL_law_1026 : decode cL_law 1026 = .ok (.aload_n 0, 1) := dq_42 dp_cL_law rfl
theorem dL_law_1027 : decode cL_law 1027 = .ok (.iload_n 3, 1) := dq_29 dp_cL_law rfl
theorem dL_law_1028 : decode cL_law 1028 = .ok (.iconst 1, 1) := dq_4 dp_cL_law rfl
theorem dL_law_1029 : decode cL_law 1029 = .ok (.iadd, 1) := dq_96 dp_cL_law rfl
theorem dL_law_1030 : decode cL_law 1030 = .ok (.iaload, 1) := dq_46 dp_cL_law rfl
theorem dL_law_1031 : decode cL_law 1031 = .ok (.invokevirtual 118, 3) := dq_182 dp_cL_law rfl
theorem dL_law_1034 : decode cL_law 1034 = .ok (.pop, 1) := dq_87 dp_cL_law rfl
theorem dL_law_1035 : decode cL_law 1035 = .ok (.goto 335, 3) := dq_167 (v := 335) dp_cL_law rfl rfl
theorem dL_law_1038 : decode cL_law 1038 = .ok (.aload_n 1, 1) := dq_43 dp_cL_law rfl
theorem dL_law_1039 : decode cL_law 1039 = .ok (.aload_n 0, 1) := dq_42 dp_cL_law rfl
theorem dL_law_1040 : decode cL_law 1040 = .ok (.iload_n 3, 1) := dq_29 dp_cL_law rfl
theorem dL_law_1041 : decode cL_law 1041 = .ok (.iconst 1, 1) := dq_4 dp_cL_law rfl
theorem dL_law_1042 : decode cL_law 1042 = .ok (.iadd, 1) := dq_96 dp_cL_law rfl
theorem dL_law_1043 : decode cL_law 1043 = .ok (.iaload, 1) := dq_46 dp_cL_law rfl
theorem dL_law_1044 : decode cL_law 1044 = .ok (.invokevirtual 119, 3) := dq_182 dp_cL_law rfl
theorem dL_law_1047 : decode cL_law 1047 = .ok (.pop, 1) := dq_87 dp_cL_law rfl
theorem dL_law_1048 : decode cL_law 1048 = .ok (.aload_n 2, 1) := dq_44 dp_cL_law rfl
theorem dL_law_1049 : decode cL_law 1049 = .ok (.aload_n 0, 1) := dq_42 dp_cL_law rfl
theorem dL_law_1050 : decode cL_law 1050 = .ok (.iload_n 3, 1) := dq_29 dp_cL_law rfl
theorem dL_law_1051 : decode cL_law 1051 = .ok (.iconst 1, 1) := dq_4 dp_cL_law rfl
theorem dL_law_1052 : decode cL_law 1052 = .ok (.iadd, 1) := dq_96 dp_cL_law rfl
theorem dL_law_1053 : decode cL_law 1053 = .ok (.iaload, 1) := dq_46 dp_cL_law rfl
theorem dL_law_1054 : decode cL_law 1054 = .ok (.invokevirtual 122, 3) := dq_182 dp_cL_law rfl

