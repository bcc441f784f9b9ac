/-! ===== the law decoded, 3 ===== -/
theorem dl_694 : decode code 694 = .ok (.aload_n 0, 1) := by decide +kernel
theorem dl_695 : decode code 695 = .ok (.iload_n 3, 1) := by decide +kernel
theorem dl_696 : decode code 696 = .ok (.iconst 4, 1) := by decide +kernel
theorem dl_697 : decode code 697 = .ok (.iadd, 1) := by decide +kernel
theorem dl_698 : decode code 698 = .ok (.iaload, 1) := by decide +kernel
theorem dl_699 : decode code 699 = .ok (.aload_n 0, 1) := by decide +kernel
theorem dl_700 : decode code 700 = .ok (.iload_n 3, 1) := by decide +kernel
theorem dl_701 : decode code 701 = .ok (.iconst 5, 1) := by decide +kernel
theorem dl_702 : decode code 702 = .ok (.iadd, 1) := by decide +kernel
theorem dl_703 : decode code 703 = .ok (.iaload, 1) := by decide +kernel
theorem dl_704 : decode code 704 = .ok (.aload_n 0, 1) := by decide +kernel
theorem dl_705 : decode code 705 = .ok (.iload_n 3, 1) := by decide +kernel
theorem dl_706 : decode code 706 = .ok (.bipush 6, 2) := by decide +kernel
theorem dl_708 : decode code 708 = .ok (.iadd, 1) := by decide +kernel
theorem dl_709 : decode code 709 = .ok (.iaload, 1) := by decide +kernel
theorem dl_710 : decode code 710 = .ok (.invokevirtual 81, 3) := by decide +kernel
theorem dl_713 : decode code 713 = .ok (.aload_n 2, 1) := by decide +kernel
theorem dl_714 : decode code 714 = .ok (.aload_n 0, 1) := by decide +kernel
theorem dl_715 : decode code 715 = .ok (.iload_n 3, 1) := by decide +kernel
theorem dl_716 : decode code 716 = .ok (.iconst 1, 1) := by decide +kernel
theorem dl_717 : decode code 717 = .ok (.iadd, 1) := by decide +kernel
theorem dl_718 : decode code 718 = .ok (.iaload, 1) := by decide +kernel
theorem dl_719 : decode code 719 = .ok (.aload_n 0, 1) := by decide +kernel
theorem dl_720 : decode code 720 = .ok (.iload_n 3, 1) := by decide +kernel
theorem dl_721 : decode code 721 = .ok (.iconst 2, 1) := by decide +kernel
theorem dl_722 : decode code 722 = .ok (.iadd, 1) := by decide +kernel
theorem dl_723 : decode code 723 = .ok (.iaload, 1) := by decide +kernel
theorem dl_724 : decode code 724 = .ok (.aload_n 0, 1) := by decide +kernel
theorem dl_725 : decode code 725 = .ok (.iload_n 3, 1) := by decide +kernel
theorem dl_726 : decode code 726 = .ok (.iconst 3, 1) := by decide +kernel
theorem dl_727 : decode code 727 = .ok (.iadd, 1) := by decide +kernel
theorem dl_728 : decode code 728 = .ok (.iaload, 1) := by decide +kernel
theorem dl_729 : decode code 729 = .ok (.aload_n 0, 1) := by decide +kernel
theorem dl_730 : decode code 730 = .ok (.iload_n 3, 1) := by decide +kernel
theorem dl_731 : decode code 731 = .ok (.iconst 4, 1) := by decide +kernel
theorem dl_732 : decode code 732 = .ok (.iadd, 1) := by decide +kernel
theorem dl_733 : decode code 733 = .ok (.iaload, 1) := by decide +kernel
theorem dl_734 : decode code 734 = .ok (.aload_n 0, 1) := by decide +kernel
theorem dl_735 : decode code 735 = .ok (.iload_n 3, 1) := by decide +kernel
theorem dl_736 : decode code 736 = .ok (.iconst 5, 1) := by decide +kernel
theorem dl_737 : decode code 737 = .ok (.iadd, 1) := by decide +kernel
theorem dl_738 : decode code 738 = .ok (.iaload, 1) := by decide +kernel
theorem dl_739 : decode code 739 = .ok (.aload_n 0, 1) := by decide +kernel
theorem dl_740 : decode code 740 = .ok (.iload_n 3, 1) := by decide +kernel
theorem dl_741 : decode code 741 = .ok (.bipush 6, 2) := by decide +kernel
theorem dl_743 : decode code 743 = .ok (.iadd, 1) := by decide +kernel
theorem dl_744 : decode code 744 = .ok (.iaload, 1) := by decide +kernel
theorem dl_745 : decode code 745 = .ok (.invokevirtual 85, 3) := by decide +kernel
theorem dl_748 : decode code 748 = .ok (.if_icmp .eq 503, 3) := by decide +kernel
theorem dl_751 : decode code 751 = .ok (.iconst 0, 1) := by decide +kernel
theorem dl_752 : decode code 752 = .ok (.ireturn, 1) := by decide +kernel
theorem dl_753 : decode code 753 = .ok (.aload_n 1, 1) := by decide +kernel
theorem dl_754 : decode code 754 = .ok (.aload_n 0, 1) := by decide +kernel
theorem dl_755 : decode code 755 = .ok (.iload_n 3, 1) := by decide +kernel
theorem dl_756 : decode code 756 = .ok (.iconst 1, 1) := by decide +kernel
theorem dl_757 : decode code 757 = .ok (.iadd, 1) := by decide +kernel
theorem dl_758 : decode code 758 = .ok (.iaload, 1) := by decide +kernel
theorem dl_759 : decode code 759 = .ok (.invokevirtual 86, 3) := by decide +kernel
theorem dl_762 : decode code 762 = .ok (.aload_n 2, 1) := by decide +kernel
theorem dl_763 : decode code 763 = .ok (.aload_n 0, 1) := by decide +kernel
theorem dl_764 : decode code 764 = .ok (.iload_n 3, 1) := by decide +kernel
theorem dl_765 : decode code 765 = .ok (.iconst 1, 1) := by decide +kernel
theorem dl_766 : decode code 766 = .ok (.iadd, 1) := by decide +kernel
theorem dl_767 : decode code 767 = .ok (.iaload, 1) := by decide +kernel
theorem dl_768 : decode code 768 = .ok (.invokevirtual 89, 3) := by decide +kernel
theorem dl_771 : decode code 771 = .ok (.if_icmp .eq 480, 3) := by decide +kernel
theorem dl_774 : decode code 774 = .ok (.iconst 0, 1) := by decide +kernel
theorem dl_775 : decode code 775 = .ok (.ireturn, 1) := by decide +kernel
theorem dl_776 : decode code 776 = .ok (.aload_n 1, 1) := by decide +kernel
theorem dl_777 : decode code 777 = .ok (.aload_n 0, 1) := by decide +kernel
theorem dl_778 : decode code 778 = .ok (.iload_n 3, 1) := by decide +kernel
theorem dl_779 : decode code 779 = .ok (.iconst 1, 1) := by decide +kernel
theorem dl_780 : decode code 780 = .ok (.iadd, 1) := by decide +kernel
theorem dl_781 : decode code 781 = .ok (.iaload, 1) := by decide +kernel
theorem dl_782 : decode code 782 = .ok (.aload_n 0, 1) := by decide +kernel
theorem dl_783 : decode code 783 = .ok (.iload_n 3, 1) := by decide +kernel
theorem dl_784 : decode code 784 = .ok (.iconst 2, 1) := by decide +kernel
theorem dl_785 : decode code 785 = .ok (.iadd, 1) := by decide +kernel
theorem dl_786 : decode code 786 = .ok (.iaload, 1) := by decide +kernel
theorem dl_787 : decode code 787 = .ok (.invokevirtual 90, 3) := by decide +kernel
theorem dl_790 : decode code 790 = .ok (.aload_n 2, 1) := by decide +kernel
theorem dl_791 : decode code 791 = .ok (.aload_n 0, 1) := by decide +kernel
theorem dl_792 : decode code 792 = .ok (.iload_n 3, 1) := by decide +kernel
theorem dl_793 : decode code 793 = .ok (.iconst 1, 1) := by decide +kernel
theorem dl_794 : decode code 794 = .ok (.iadd, 1) := by decide +kernel
theorem dl_795 : decode code 795 = .ok (.iaload, 1) := by decide +kernel
theorem dl_796 : decode code 796 = .ok (.aload_n 0, 1) := by decide +kernel
theorem dl_797 : decode code 797 = .ok (.iload_n 3, 1) := by decide +kernel
theorem dl_798 : decode code 798 = .ok (.iconst 2, 1) := by decide +kernel
theorem dl_799 : decode code 799 = .ok (.iadd, 1) := by decide +kernel
theorem dl_800 : decode code 800 = .ok (.iaload, 1) := by decide +kernel
theorem dl_801 : decode code 801 = .ok (.invokevirtual 93, 3) := by decide +kernel
theorem dl_804 : decode code 804 = .ok (.if_icmp .eq 447, 3) := by decide +kernel
theorem dl_807 : decode code 807 = .ok (.iconst 0, 1) := by decide +kernel
theorem dl_808 : decode code 808 = .ok (.ireturn, 1) := by decide +kernel
theorem dl_809 : decode code 809 = .ok (.aload_n 1, 1) := by decide +kernel
theorem dl_810 : decode code 810 = .ok (.aload_n 0, 1) := by decide +kernel
theorem dl_811 : decode code 811 = .ok (.iload_n 3, 1) := by decide +kernel
theorem dl_812 : decode code 812 = .ok (.iconst 1, 1) := by decide +kernel
theorem dl_813 : decode code 813 = .ok (.iadd, 1) := by decide +kernel
theorem dl_814 : decode code 814 = .ok (.iaload, 1) := by decide +kernel
theorem dl_815 : decode code 815 = .ok (.aload_n 0, 1) := by decide +kernel
theorem dl_816 : decode code 816 = .ok (.iload_n 3, 1) := by decide +kernel
theorem dl_817 : decode code 817 = .ok (.iconst 2, 1) := by decide +kernel
theorem dl_818 : decode code 818 = .ok (.iadd, 1) := by decide +kernel
theorem dl_819 : decode code 819 = .ok (.iaload, 1) := by decide +kernel
theorem dl_820 : decode code 820 = .ok (.aload_n 0, 1) := by decide +kernel
theorem dl_821 : decode code 821 = .ok (.iload_n 3, 1) := by decide +kernel
theorem dl_822 : decode code 822 = .ok (.iconst 3, 1) := by decide +kernel
theorem dl_823 : decode code 823 = .ok (.iadd, 1) := by decide +kernel
theorem dl_824 : decode code 824 = .ok (.iaload, 1) := by decide +kernel
theorem dl_825 : decode code 825 = .ok (.ifCond .eq 7, 3) := by decide +kernel
theorem dl_828 : decode code 828 = .ok (.iconst 1, 1) := by decide +kernel
theorem dl_829 : decode code 829 = .ok (.goto 4, 3) := by decide +kernel
theorem dl_832 : decode code 832 = .ok (.iconst 0, 1) := by decide +kernel
theorem dl_833 : decode code 833 = .ok (.invokevirtual 94, 3) := by decide +kernel
theorem dl_836 : decode code 836 = .ok (.aload_n 2, 1) := by decide +kernel
theorem dl_837 : decode code 837 = .ok (.aload_n 0, 1) := by decide +kernel
theorem dl_838 : decode code 838 = .ok (.iload_n 3, 1) := by decide +kernel
theorem dl_839 : decode code 839 = .ok (.iconst 1, 1) := by decide +kernel
theorem dl_840 : decode code 840 = .ok (.iadd, 1) := by decide +kernel
theorem dl_841 : decode code 841 = .ok (.iaload, 1) := by decide +kernel
theorem dl_842 : decode code 842 = .ok (.aload_n 0, 1) := by decide +kernel
theorem dl_843 : decode code 843 = .ok (.iload_n 3, 1) := by decide +kernel
theorem dl_844 : decode code 844 = .ok (.iconst 2, 1) := by decide +kernel
theorem dl_845 : decode code 845 = .ok (.iadd, 1) := by decide +kernel
theorem dl_846 : decode code 846 = .ok (.iaload, 1) := by decide +kernel
theorem dl_847 : decode code 847 = .ok (.aload_n 0, 1) := by decide +kernel
theorem dl_848 : decode code 848 = .ok (.iload_n 3, 1) := by decide +kernel
theorem dl_849 : decode code 849 = .ok (.iconst 3, 1) := by decide +kernel
theorem dl_850 : decode code 850 = .ok (.iadd, 1) := by decide +kernel
theorem dl_851 : decode code 851 = .ok (.iaload, 1) := by decide +kernel
theorem dl_852 : decode code 852 = .ok (.ifCond .eq 7, 3) := by decide +kernel
theorem dl_855 : decode code 855 = .ok (.iconst 1, 1) := by decide +kernel
theorem dl_856 : decode code 856 = .ok (.goto 4, 3) := by decide +kernel
theorem dl_859 : decode code 859 = .ok (.iconst 0, 1) := by decide +kernel
theorem dl_860 : decode code 860 = .ok (.invokevirtual 98, 3) := by decide +kernel
theorem dl_863 : decode code 863 = .ok (.if_icmp .eq 388, 3) := by decide +kernel
theorem dl_866 : decode code 866 = .ok (.iconst 0, 1) := by decide +kernel
theorem dl_867 : decode code 867 = .ok (.ireturn, 1) := by decide +kernel
theorem dl_868 : decode code 868 = .ok (.aload_n 1, 1) := by decide +kernel
theorem dl_869 : decode code 869 = .ok (.aload_n 0, 1) := by decide +kernel
theorem dl_870 : decode code 870 = .ok (.iload_n 3, 1) := by decide +kernel
theorem dl_871 : decode code 871 = .ok (.iconst 1, 1) := by decide +kernel
theorem dl_872 : decode code 872 = .ok (.iadd, 1) := by decide +kernel
theorem dl_873 : decode code 873 = .ok (.iaload, 1) := by decide +kernel
theorem dl_874 : decode code 874 = .ok (.invokevirtual 99, 3) := by decide +kernel
theorem dl_877 : decode code 877 = .ok (.aload_n 2, 1) := by decide +kernel
theorem dl_878 : decode code 878 = .ok (.aload_n 0, 1) := by decide +kernel
theorem dl_879 : decode code 879 = .ok (.iload_n 3, 1) := by decide +kernel
theorem dl_880 : decode code 880 = .ok (.iconst 1, 1) := by decide +kernel
theorem dl_881 : decode code 881 = .ok (.iadd, 1) := by decide +kernel
theorem dl_882 : decode code 882 = .ok (.iaload, 1) := by decide +kernel
theorem dl_883 : decode code 883 = .ok (.invokevirtual 102, 3) := by decide +kernel
theorem dl_886 : decode code 886 = .ok (.if_icmp .eq 365, 3) := by decide +kernel
theorem dl_889 : decode code 889 = .ok (.iconst 0, 1) := by decide +kernel
theorem dl_890 : decode code 890 = .ok (.ireturn, 1) := by decide +kernel
theorem dl_891 : decode code 891 = .ok (.aload_n 1, 1) := by decide +kernel
theorem dl_892 : decode code 892 = .ok (.aload_n 0, 1) := by decide +kernel
theorem dl_893 : decode code 893 = .ok (.iload_n 3, 1) := by decide +kernel
theorem dl_894 : decode code 894 = .ok (.iconst 1, 1) := by decide +kernel
theorem dl_895 : decode code 895 = .ok (.iadd, 1) := by decide +kernel
theorem dl_896 : decode code 896 = .ok (.iaload, 1) := by decide +kernel
theorem dl_897 : decode code 897 = .ok (.invokevirtual 103, 3) := by decide +kernel
theorem dl_900 : decode code 900 = .ok (.aload_n 2, 1) := by decide +kernel
theorem dl_901 : decode code 901 = .ok (.aload_n 0, 1) := by decide +kernel
theorem dl_902 : decode code 902 = .ok (.iload_n 3, 1) := by decide +kernel
theorem dl_903 : decode code 903 = .ok (.iconst 1, 1) := by decide +kernel
theorem dl_904 : decode code 904 = .ok (.iadd, 1) := by decide +kernel
theorem dl_905 : decode code 905 = .ok (.iaload, 1) := by decide +kernel
theorem dl_906 : decode code 906 = .ok (.invokevirtual 106, 3) := by decide +kernel
theorem dl_909 : decode code 909 = .ok (.if_icmp .eq 342, 3) := by decide +kernel
theorem dl_912 : decode code 912 = .ok (.iconst 0, 1) := by decide +kernel
theorem dl_913 : decode code 913 = .ok (.ireturn, 1) := by decide +kernel
theorem dl_914 : decode code 914 = .ok (.aload_n 1, 1) := by decide +kernel
theorem dl_915 : decode code 915 = .ok (.aload_n 0, 1) := by decide +kernel
theorem dl_916 : decode code 916 = .ok (.iload_n 3, 1) := by decide +kernel
theorem dl_917 : decode code 917 = .ok (.iconst 1, 1) := by decide +kernel
theorem dl_918 : decode code 918 = .ok (.iadd, 1) := by decide +kernel
theorem dl_919 : decode code 919 = .ok (.iaload, 1) := by decide +kernel
theorem dl_920 : decode code 920 = .ok (.aload_n 0, 1) := by decide +kernel
theorem dl_921 : decode code 921 = .ok (.iload_n 3, 1) := by decide +kernel
theorem dl_922 : decode code 922 = .ok (.iconst 2, 1) := by decide +kernel
theorem dl_923 : decode code 923 = .ok (.iadd, 1) := by decide +kernel
theorem dl_924 : decode code 924 = .ok (.iaload, 1) := by decide +kernel
theorem dl_925 : decode code 925 = .ok (.invokevirtual 107, 3) := by decide +kernel
theorem dl_928 : decode code 928 = .ok (.aload_n 2, 1) := by decide +kernel
theorem dl_929 : decode code 929 = .ok (.aload_n 0, 1) := by decide +kernel
theorem dl_930 : decode code 930 = .ok (.iload_n 3, 1) := by decide +kernel
theorem dl_931 : decode code 931 = .ok (.iconst 1, 1) := by decide +kernel
theorem dl_932 : decode code 932 = .ok (.iadd, 1) := by decide +kernel
theorem dl_933 : decode code 933 = .ok (.iaload, 1) := by decide +kernel
theorem dl_934 : decode code 934 = .ok (.aload_n 0, 1) := by decide +kernel
theorem dl_935 : decode code 935 = .ok (.iload_n 3, 1) := by decide +kernel
theorem dl_936 : decode code 936 = .ok (.iconst 2, 1) := by decide +kernel
theorem dl_937 : decode code 937 = .ok (.iadd, 1) := by decide +kernel
theorem dl_938 : decode code 938 = .ok (.iaload, 1) := by decide +kernel
theorem dl_939 : decode code 939 = .ok (.invokevirtual 110, 3) := by decide +kernel
theorem dl_942 : decode code 942 = .ok (.if_icmp .eq 309, 3) := by decide +kernel
theorem dl_945 : decode code 945 = .ok (.iconst 0, 1) := by decide +kernel
theorem dl_946 : decode code 946 = .ok (.ireturn, 1) := by decide +kernel
theorem dl_947 : decode code 947 = .ok (.aload_n 1, 1) := by decide +kernel
theorem dl_948 : decode code 948 = .ok (.aload_n 0, 1) := by decide +kernel
theorem dl_949 : decode code 949 = .ok (.iload_n 3, 1) := by decide +kernel
theorem dl_950 : decode code 950 = .ok (.iconst 1, 1) := by decide +kernel
theorem dl_951 : decode code 951 = .ok (.iadd, 1) := by decide +kernel
theorem dl_952 : decode code 952 = .ok (.iaload, 1) := by decide +kernel
theorem dl_953 : decode code 953 = .ok (.invokevirtual 111, 3) := by decide +kernel
theorem dl_956 : decode code 956 = .ok (.aload_n 2, 1) := by decide +kernel
theorem dl_957 : decode code 957 = .ok (.aload_n 0, 1) := by decide +kernel
theorem dl_958 : decode code 958 = .ok (.iload_n 3, 1) := by decide +kernel
theorem dl_959 : decode code 959 = .ok (.iconst 1, 1) := by decide +kernel
theorem dl_960 : decode code 960 = .ok (.iadd, 1) := by decide +kernel
theorem dl_961 : decode code 961 = .ok (.iaload, 1) := by decide +kernel
theorem dl_962 : decode code 962 = .ok (.invokevirtual 114, 3) := by decide +kernel
theorem dl_965 : decode code 965 = .ok (.if_icmp .eq 286, 3) := by decide +kernel
theorem dl_968 : decode code 968 = .ok (.iconst 0, 1) := by decide +kernel
theorem dl_969 : decode code 969 = .ok (.ireturn, 1) := by decide +kernel
theorem dl_970 : decode code 970 = .ok (.aload_n 1, 1) := by decide +kernel
theorem dl_971 : decode code 971 = .ok (.aload_n 0, 1) := by decide +kernel
