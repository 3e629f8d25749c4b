theorem dL_710 : decode code 710 = .ok (.invokevirtual 93, 3) := by decide +kernel
theorem dL_713 : decode code 713 = .ok (.lcmp, 1) := by decide +kernel
theorem dL_714 : decode code 714 = .ok (.ifCond .eq 796, 3) := by decide +kernel
theorem dL_719 : decode code 719 = .ok (.aload_n 1, 1) := by decide +kernel
theorem dL_720 : decode code 720 = .ok (.aload_n 0, 1) := by decide +kernel
theorem dL_721 : decode code 721 = .ok (.iload_n 3, 1) := by decide +kernel
theorem dL_722 : decode code 722 = .ok (.iconst 1, 1) := by decide +kernel
theorem dL_723 : decode code 723 = .ok (.iadd, 1) := by decide +kernel
theorem dL_724 : decode code 724 = .ok (.iaload, 1) := by decide +kernel
theorem dL_725 : decode code 725 = .ok (.aload_n 0, 1) := by decide +kernel
theorem dL_726 : decode code 726 = .ok (.iload_n 3, 1) := by decide +kernel
theorem dL_727 : decode code 727 = .ok (.iconst 2, 1) := by decide +kernel
theorem dL_728 : decode code 728 = .ok (.iadd, 1) := by decide +kernel
theorem dL_729 : decode code 729 = .ok (.iaload, 1) := by decide +kernel
theorem dL_730 : decode code 730 = .ok (.i2l, 1) := by decide +kernel
theorem dL_731 : decode code 731 = .ok (.bipush 32, 2) := by decide +kernel
theorem dL_733 : decode code 733 = .ok (.lshl, 1) := by decide +kernel
theorem dL_734 : decode code 734 = .ok (.aload_n 0, 1) := by decide +kernel
theorem dL_735 : decode code 735 = .ok (.iload_n 3, 1) := by decide +kernel
theorem dL_736 : decode code 736 = .ok (.iconst 3, 1) := by decide +kernel
theorem dL_737 : decode code 737 = .ok (.iadd, 1) := by decide +kernel
theorem dL_738 : decode code 738 = .ok (.iaload, 1) := by decide +kernel
theorem dL_739 : decode code 739 = .ok (.i2l, 1) := by decide +kernel
theorem dL_740 : decode code 740 = .ok (.ldc2_w 13, 3) := by decide +kernel
theorem dL_743 : decode code 743 = .ok (.land, 1) := by decide +kernel
theorem dL_744 : decode code 744 = .ok (.lor, 1) := by decide +kernel
theorem dL_745 : decode code 745 = .ok (.invokevirtual 94, 3) := by decide +kernel
theorem dL_748 : decode code 748 = .ok (.aload_n 2, 1) := by decide +kernel
theorem dL_749 : decode code 749 = .ok (.aload_n 0, 1) := by decide +kernel
theorem dL_750 : decode code 750 = .ok (.iload_n 3, 1) := by decide +kernel
theorem dL_751 : decode code 751 = .ok (.iconst 1, 1) := by decide +kernel
theorem dL_752 : decode code 752 = .ok (.iadd, 1) := by decide +kernel
theorem dL_753 : decode code 753 = .ok (.iaload, 1) := by decide +kernel
theorem dL_754 : decode code 754 = .ok (.aload_n 0, 1) := by decide +kernel
theorem dL_755 : decode code 755 = .ok (.iload_n 3, 1) := by decide +kernel
theorem dL_756 : decode code 756 = .ok (.iconst 2, 1) := by decide +kernel
theorem dL_757 : decode code 757 = .ok (.iadd, 1) := by decide +kernel
theorem dL_758 : decode code 758 = .ok (.iaload, 1) := by decide +kernel
theorem dL_759 : decode code 759 = .ok (.i2l, 1) := by decide +kernel
theorem dL_760 : decode code 760 = .ok (.bipush 32, 2) := by decide +kernel
theorem dL_762 : decode code 762 = .ok (.lshl, 1) := by decide +kernel
theorem dL_763 : decode code 763 = .ok (.aload_n 0, 1) := by decide +kernel
theorem dL_764 : decode code 764 = .ok (.iload_n 3, 1) := by decide +kernel
theorem dL_765 : decode code 765 = .ok (.iconst 3, 1) := by decide +kernel
theorem dL_766 : decode code 766 = .ok (.iadd, 1) := by decide +kernel
theorem dL_767 : decode code 767 = .ok (.iaload, 1) := by decide +kernel
theorem dL_768 : decode code 768 = .ok (.i2l, 1) := by decide +kernel
theorem dL_769 : decode code 769 = .ok (.ldc2_w 13, 3) := by decide +kernel
theorem dL_772 : decode code 772 = .ok (.land, 1) := by decide +kernel
theorem dL_773 : decode code 773 = .ok (.lor, 1) := by decide +kernel
theorem dL_774 : decode code 774 = .ok (.invokevirtual 97, 3) := by decide +kernel
theorem dL_777 : decode code 777 = .ok (.if_icmp .eq 733, 3) := by decide +kernel
theorem dL_782 : decode code 782 = .ok (.aload_n 1, 1) := by decide +kernel
theorem dL_783 : decode code 783 = .ok (.aload_n 0, 1) := by decide +kernel
theorem dL_784 : decode code 784 = .ok (.iload_n 3, 1) := by decide +kernel
theorem dL_785 : decode code 785 = .ok (.iconst 1, 1) := by decide +kernel
theorem dL_786 : decode code 786 = .ok (.iadd, 1) := by decide +kernel
theorem dL_787 : decode code 787 = .ok (.iaload, 1) := by decide +kernel
theorem dL_788 : decode code 788 = .ok (.aload_n 0, 1) := by decide +kernel
theorem dL_789 : decode code 789 = .ok (.iload_n 3, 1) := by decide +kernel
theorem dL_790 : decode code 790 = .ok (.iconst 2, 1) := by decide +kernel
theorem dL_791 : decode code 791 = .ok (.iadd, 1) := by decide +kernel
theorem dL_792 : decode code 792 = .ok (.iaload, 1) := by decide +kernel
theorem dL_793 : decode code 793 = .ok (.i2l, 1) := by decide +kernel
theorem dL_794 : decode code 794 = .ok (.bipush 32, 2) := by decide +kernel
theorem dL_796 : decode code 796 = .ok (.lshl, 1) := by decide +kernel
theorem dL_797 : decode code 797 = .ok (.aload_n 0, 1) := by decide +kernel
theorem dL_798 : decode code 798 = .ok (.iload_n 3, 1) := by decide +kernel
theorem dL_799 : decode code 799 = .ok (.iconst 3, 1) := by decide +kernel
theorem dL_800 : decode code 800 = .ok (.iadd, 1) := by decide +kernel
theorem dL_801 : decode code 801 = .ok (.iaload, 1) := by decide +kernel
theorem dL_802 : decode code 802 = .ok (.i2l, 1) := by decide +kernel
theorem dL_803 : decode code 803 = .ok (.ldc2_w 13, 3) := by decide +kernel
theorem dL_806 : decode code 806 = .ok (.land, 1) := by decide +kernel
theorem dL_807 : decode code 807 = .ok (.lor, 1) := by decide +kernel
theorem dL_808 : decode code 808 = .ok (.aload_n 0, 1) := by decide +kernel
theorem dL_809 : decode code 809 = .ok (.iload_n 3, 1) := by decide +kernel
theorem dL_810 : decode code 810 = .ok (.iconst 4, 1) := by decide +kernel
theorem dL_811 : decode code 811 = .ok (.iadd, 1) := by decide +kernel
theorem dL_812 : decode code 812 = .ok (.iaload, 1) := by decide +kernel
theorem dL_813 : decode code 813 = .ok (.aload_n 0, 1) := by decide +kernel
theorem dL_814 : decode code 814 = .ok (.iload_n 3, 1) := by decide +kernel
theorem dL_815 : decode code 815 = .ok (.iconst 5, 1) := by decide +kernel
theorem dL_816 : decode code 816 = .ok (.iadd, 1) := by decide +kernel
theorem dL_817 : decode code 817 = .ok (.iaload, 1) := by decide +kernel
theorem dL_818 : decode code 818 = .ok (.aload_n 0, 1) := by decide +kernel
theorem dL_819 : decode code 819 = .ok (.iload_n 3, 1) := by decide +kernel
theorem dL_820 : decode code 820 = .ok (.bipush 6, 2) := by decide +kernel
theorem dL_822 : decode code 822 = .ok (.iadd, 1) := by decide +kernel
theorem dL_823 : decode code 823 = .ok (.iaload, 1) := by decide +kernel
theorem dL_824 : decode code 824 = .ok (.i2l, 1) := by decide +kernel
theorem dL_825 : decode code 825 = .ok (.bipush 32, 2) := by decide +kernel
theorem dL_827 : decode code 827 = .ok (.lshl, 1) := by decide +kernel
theorem dL_828 : decode code 828 = .ok (.aload_n 0, 1) := by decide +kernel
theorem dL_829 : decode code 829 = .ok (.iload_n 3, 1) := by decide +kernel
theorem dL_830 : decode code 830 = .ok (.bipush 7, 2) := by decide +kernel
theorem dL_832 : decode code 832 = .ok (.iadd, 1) := by decide +kernel
theorem dL_833 : decode code 833 = .ok (.iaload, 1) := by decide +kernel
theorem dL_834 : decode code 834 = .ok (.i2l, 1) := by decide +kernel
theorem dL_835 : decode code 835 = .ok (.ldc2_w 13, 3) := by decide +kernel
theorem dL_838 : decode code 838 = .ok (.land, 1) := by decide +kernel
theorem dL_839 : decode code 839 = .ok (.lor, 1) := by decide +kernel
theorem dL_840 : decode code 840 = .ok (.invokevirtual 98, 3) := by decide +kernel
theorem dL_843 : decode code 843 = .ok (.aload_n 2, 1) := by decide +kernel
theorem dL_844 : decode code 844 = .ok (.aload_n 0, 1) := by decide +kernel
theorem dL_845 : decode code 845 = .ok (.iload_n 3, 1) := by decide +kernel
theorem dL_846 : decode code 846 = .ok (.iconst 1, 1) := by decide +kernel
theorem dL_847 : decode code 847 = .ok (.iadd, 1) := by decide +kernel
theorem dL_848 : decode code 848 = .ok (.iaload, 1) := by decide +kernel
theorem dL_849 : decode code 849 = .ok (.aload_n 0, 1) := by decide +kernel
theorem dL_850 : decode code 850 = .ok (.iload_n 3, 1) := by decide +kernel
theorem dL_851 : decode code 851 = .ok (.iconst 2, 1) := by decide +kernel
theorem dL_852 : decode code 852 = .ok (.iadd, 1) := by decide +kernel
theorem dL_853 : decode code 853 = .ok (.iaload, 1) := by decide +kernel
theorem dL_854 : decode code 854 = .ok (.i2l, 1) := by decide +kernel
theorem dL_855 : decode code 855 = .ok (.bipush 32, 2) := by decide +kernel
theorem dL_857 : decode code 857 = .ok (.lshl, 1) := by decide +kernel
theorem dL_858 : decode code 858 = .ok (.aload_n 0, 1) := by decide +kernel
theorem dL_859 : decode code 859 = .ok (.iload_n 3, 1) := by decide +kernel
theorem dL_860 : decode code 860 = .ok (.iconst 3, 1) := by decide +kernel
theorem dL_861 : decode code 861 = .ok (.iadd, 1) := by decide +kernel
theorem dL_862 : decode code 862 = .ok (.iaload, 1) := by decide +kernel
theorem dL_863 : decode code 863 = .ok (.i2l, 1) := by decide +kernel
theorem dL_864 : decode code 864 = .ok (.ldc2_w 13, 3) := by decide +kernel
theorem dL_867 : decode code 867 = .ok (.land, 1) := by decide +kernel
theorem dL_868 : decode code 868 = .ok (.lor, 1) := by decide +kernel
theorem dL_869 : decode code 869 = .ok (.aload_n 0, 1) := by decide +kernel
theorem dL_870 : decode code 870 = .ok (.iload_n 3, 1) := by decide +kernel
theorem dL_871 : decode code 871 = .ok (.iconst 4, 1) := by decide +kernel
theorem dL_872 : decode code 872 = .ok (.iadd, 1) := by decide +kernel
