theorem dL_822 : decode code 822 = .ok (.iconst 0, 1) := by decide +kernel
theorem dL_823 : decode code 823 = .ok (.ireturn, 1) := by decide +kernel
theorem dL_824 : decode code 824 = .ok (.aload_n 1, 1) := by decide +kernel
theorem dL_825 : decode code 825 = .ok (.aload_n 0, 1) := by decide +kernel
theorem dL_826 : decode code 826 = .ok (.iload_n 3, 1) := by decide +kernel
theorem dL_827 : decode code 827 = .ok (.iconst 1, 1) := by decide +kernel
theorem dL_828 : decode code 828 = .ok (.iadd, 1) := by decide +kernel
theorem dL_829 : decode code 829 = .ok (.iaload, 1) := by decide +kernel
theorem dL_830 : decode code 830 = .ok (.aload_n 0, 1) := by decide +kernel
theorem dL_831 : decode code 831 = .ok (.iload_n 3, 1) := by decide +kernel
theorem dL_832 : decode code 832 = .ok (.iconst 2, 1) := by decide +kernel
theorem dL_833 : decode code 833 = .ok (.iadd, 1) := by decide +kernel
theorem dL_834 : decode code 834 = .ok (.iaload, 1) := by decide +kernel
theorem dL_835 : decode code 835 = .ok (.aload_n 0, 1) := by decide +kernel
theorem dL_836 : decode code 836 = .ok (.iload_n 3, 1) := by decide +kernel
theorem dL_837 : decode code 837 = .ok (.iconst 3, 1) := by decide +kernel
theorem dL_838 : decode code 838 = .ok (.iadd, 1) := by decide +kernel
theorem dL_839 : decode code 839 = .ok (.iaload, 1) := by decide +kernel
theorem dL_840 : decode code 840 = .ok (.aload_n 0, 1) := by decide +kernel
theorem dL_841 : decode code 841 = .ok (.iload_n 3, 1) := by decide +kernel
theorem dL_842 : decode code 842 = .ok (.iconst 4, 1) := by decide +kernel
theorem dL_843 : decode code 843 = .ok (.iadd, 1) := by decide +kernel
theorem dL_844 : decode code 844 = .ok (.iaload, 1) := by decide +kernel
theorem dL_845 : decode code 845 = .ok (.invokevirtual 98, 3) := by decide +kernel
theorem dL_848 : decode code 848 = .ok (.aload_n 2, 1) := by decide +kernel
theorem dL_849 : decode code 849 = .ok (.aload_n 0, 1) := by decide +kernel
theorem dL_850 : decode code 850 = .ok (.iload_n 3, 1) := by decide +kernel
theorem dL_851 : decode code 851 = .ok (.iconst 1, 1) := by decide +kernel
theorem dL_852 : decode code 852 = .ok (.iadd, 1) := by decide +kernel
theorem dL_853 : decode code 853 = .ok (.iaload, 1) := by decide +kernel
theorem dL_854 : decode code 854 = .ok (.aload_n 0, 1) := by decide +kernel
theorem dL_855 : decode code 855 = .ok (.iload_n 3, 1) := by decide +kernel
theorem dL_856 : decode code 856 = .ok (.iconst 2, 1) := by decide +kernel
theorem dL_857 : decode code 857 = .ok (.iadd, 1) := by decide +kernel
theorem dL_858 : decode code 858 = .ok (.iaload, 1) := by decide +kernel
theorem dL_859 : decode code 859 = .ok (.aload_n 0, 1) := by decide +kernel
theorem dL_860 : decode code 860 = .ok (.iload_n 3, 1) := by decide +kernel
theorem dL_861 : decode code 861 = .ok (.iconst 3, 1) := by decide +kernel
theorem dL_862 : decode code 862 = .ok (.iadd, 1) := by decide +kernel
theorem dL_863 : decode code 863 = .ok (.iaload, 1) := by decide +kernel
theorem dL_864 : decode code 864 = .ok (.aload_n 0, 1) := by decide +kernel
theorem dL_865 : decode code 865 = .ok (.iload_n 3, 1) := by decide +kernel
theorem dL_866 : decode code 866 = .ok (.iconst 4, 1) := by decide +kernel
theorem dL_867 : decode code 867 = .ok (.iadd, 1) := by decide +kernel
theorem dL_868 : decode code 868 = .ok (.iaload, 1) := by decide +kernel
theorem dL_869 : decode code 869 = .ok (.invokevirtual 102, 3) := by decide +kernel
theorem dL_872 : decode code 872 = .ok (.if_icmp .eq 375, 3) := by decide +kernel
theorem dL_875 : decode code 875 = .ok (.iconst 0, 1) := by decide +kernel
theorem dL_876 : decode code 876 = .ok (.ireturn, 1) := by decide +kernel
theorem dL_877 : decode code 877 = .ok (.aload_n 1, 1) := by decide +kernel
theorem dL_878 : decode code 878 = .ok (.aload_n 0, 1) := by decide +kernel
theorem dL_879 : decode code 879 = .ok (.iload_n 3, 1) := by decide +kernel
theorem dL_880 : decode code 880 = .ok (.iconst 1, 1) := by decide +kernel
theorem dL_881 : decode code 881 = .ok (.iadd, 1) := by decide +kernel
theorem dL_882 : decode code 882 = .ok (.iaload, 1) := by decide +kernel
theorem dL_883 : decode code 883 = .ok (.aload_n 0, 1) := by decide +kernel
theorem dL_884 : decode code 884 = .ok (.iload_n 3, 1) := by decide +kernel
theorem dL_885 : decode code 885 = .ok (.iconst 2, 1) := by decide +kernel
theorem dL_886 : decode code 886 = .ok (.iadd, 1) := by decide +kernel
theorem dL_887 : decode code 887 = .ok (.iaload, 1) := by decide +kernel
