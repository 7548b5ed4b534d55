theorem d_law_law_636 : decode code 636 = .ok (.aload_n 0, 1) := by decide +kernel
theorem d_law_law_637 : decode code 637 = .ok (.iload_n 3, 1) := by decide +kernel
theorem d_law_law_638 : decode code 638 = .ok (.iconst 3, 1) := by decide +kernel
theorem d_law_law_639 : decode code 639 = .ok (.iadd, 1) := by decide +kernel
theorem d_law_law_640 : decode code 640 = .ok (.iaload, 1) := by decide +kernel
theorem d_law_law_641 : decode code 641 = .ok (.aload_n 0, 1) := by decide +kernel
theorem d_law_law_642 : decode code 642 = .ok (.iload_n 3, 1) := by decide +kernel
theorem d_law_law_643 : decode code 643 = .ok (.iconst 4, 1) := by decide +kernel
theorem d_law_law_644 : decode code 644 = .ok (.iadd, 1) := by decide +kernel
theorem d_law_law_645 : decode code 645 = .ok (.iaload, 1) := by decide +kernel
theorem d_law_law_646 : decode code 646 = .ok (.aload_n 0, 1) := by decide +kernel
theorem d_law_law_647 : decode code 647 = .ok (.iload_n 3, 1) := by decide +kernel
theorem d_law_law_648 : decode code 648 = .ok (.iconst 5, 1) := by decide +kernel
theorem d_law_law_649 : decode code 649 = .ok (.iadd, 1) := by decide +kernel
theorem d_law_law_650 : decode code 650 = .ok (.iaload, 1) := by decide +kernel
theorem d_law_law_651 : decode code 651 = .ok (.invokevirtual 70, 3) := by decide +kernel
theorem d_law_law_654 : decode code 654 = .ok (.if_icmp .eq 773, 3) := by decide +kernel
theorem d_law_law_659 : decode code 659 = .ok (.aload_n 1, 1) := by decide +kernel
theorem d_law_law_660 : decode code 660 = .ok (.aload_n 0, 1) := by decide +kernel
theorem d_law_law_661 : decode code 661 = .ok (.iload_n 3, 1) := by decide +kernel
theorem d_law_law_662 : decode code 662 = .ok (.iconst 1, 1) := by decide +kernel
theorem d_law_law_663 : decode code 663 = .ok (.iadd, 1) := by decide +kernel
theorem d_law_law_664 : decode code 664 = .ok (.iaload, 1) := by decide +kernel
theorem d_law_law_665 : decode code 665 = .ok (.aload_n 0, 1) := by decide +kernel
theorem d_law_law_666 : decode code 666 = .ok (.iload_n 3, 1) := by decide +kernel
theorem d_law_law_667 : decode code 667 = .ok (.iconst 2, 1) := by decide +kernel
theorem d_law_law_668 : decode code 668 = .ok (.iadd, 1) := by decide +kernel
theorem d_law_law_669 : decode code 669 = .ok (.iaload, 1) := by decide +kernel
theorem d_law_law_670 : decode code 670 = .ok (.aload_n 0, 1) := by decide +kernel
theorem d_law_law_671 : decode code 671 = .ok (.iload_n 3, 1) := by decide +kernel
theorem d_law_law_672 : decode code 672 = .ok (.iconst 3, 1) := by decide +kernel
theorem d_law_law_673 : decode code 673 = .ok (.iadd, 1) := by decide +kernel
theorem d_law_law_674 : decode code 674 = .ok (.iaload, 1) := by decide +kernel
theorem d_law_law_675 : decode code 675 = .ok (.aload_n 0, 1) := by decide +kernel
theorem d_law_law_676 : decode code 676 = .ok (.iload_n 3, 1) := by decide +kernel
theorem d_law_law_677 : decode code 677 = .ok (.iconst 4, 1) := by decide +kernel
theorem d_law_law_678 : decode code 678 = .ok (.iadd, 1) := by decide +kernel
theorem d_law_law_679 : decode code 679 = .ok (.iaload, 1) := by decide +kernel
theorem d_law_law_680 : decode code 680 = .ok (.aload_n 0, 1) := by decide +kernel
theorem d_law_law_681 : decode code 681 = .ok (.iload_n 3, 1) := by decide +kernel
theorem d_law_law_682 : decode code 682 = .ok (.iconst 5, 1) := by decide +kernel
theorem d_law_law_683 : decode code 683 = .ok (.iadd, 1) := by decide +kernel
theorem d_law_law_684 : decode code 684 = .ok (.iaload, 1) := by decide +kernel
theorem d_law_law_685 : decode code 685 = .ok (.invokevirtual 71, 3) := by decide +kernel
theorem d_law_law_688 : decode code 688 = .ok (.aload_n 2, 1) := by decide +kernel
theorem d_law_law_689 : decode code 689 = .ok (.aload_n 0, 1) := by decide +kernel
theorem d_law_law_690 : decode code 690 = .ok (.iload_n 3, 1) := by decide +kernel
theorem d_law_law_691 : decode code 691 = .ok (.iconst 1, 1) := by decide +kernel
theorem d_law_law_692 : decode code 692 = .ok (.iadd, 1) := by decide +kernel
theorem d_law_law_693 : decode code 693 = .ok (.iaload, 1) := by decide +kernel
theorem d_law_law_694 : decode code 694 = .ok (.aload_n 0, 1) := by decide +kernel
theorem d_law_law_695 : decode code 695 = .ok (.iload_n 3, 1) := by decide +kernel
theorem d_law_law_696 : decode code 696 = .ok (.iconst 2, 1) := by decide +kernel
theorem d_law_law_697 : decode code 697 = .ok (.iadd, 1) := by decide +kernel
theorem d_law_law_698 : decode code 698 = .ok (.iaload, 1) := by decide +kernel
theorem d_law_law_699 : decode code 699 = .ok (.aload_n 0, 1) := by decide +kernel
theorem d_law_law_700 : decode code 700 = .ok (.iload_n 3, 1) := by decide +kernel
theorem d_law_law_701 : decode code 701 = .ok (.iconst 3, 1) := by decide +kernel
theorem d_law_law_702 : decode code 702 = .ok (.iadd, 1) := by decide +kernel
theorem d_law_law_703 : decode code 703 = .ok (.iaload, 1) := by decide +kernel
theorem d_law_law_704 : decode code 704 = .ok (.aload_n 0, 1) := by decide +kernel
theorem d_law_law_705 : decode code 705 = .ok (.iload_n 3, 1) := by decide +kernel
theorem d_law_law_706 : decode code 706 = .ok (.iconst 4, 1) := by decide +kernel
theorem d_law_law_707 : decode code 707 = .ok (.iadd, 1) := by decide +kernel
theorem d_law_law_708 : decode code 708 = .ok (.iaload, 1) := by decide +kernel
theorem d_law_law_709 : decode code 709 = .ok (.aload_n 0, 1) := by decide +kernel
theorem d_law_law_710 : decode code 710 = .ok (.iload_n 3, 1) := by decide +kernel
theorem d_law_law_711 : decode code 711 = .ok (.iconst 5, 1) := by decide +kernel
theorem d_law_law_712 : decode code 712 = .ok (.iadd, 1) := by decide +kernel
theorem d_law_law_713 : decode code 713 = .ok (.iaload, 1) := by decide +kernel
theorem d_law_law_714 : decode code 714 = .ok (.invokevirtual 74, 3) := by decide +kernel
theorem d_law_law_717 : decode code 717 = .ok (.if_icmp .eq 710, 3) := by decide +kernel
theorem d_law_law_722 : decode code 722 = .ok (.aload_n 1, 1) := by decide +kernel
theorem d_law_law_723 : decode code 723 = .ok (.aload_n 0, 1) := by decide +kernel
theorem d_law_law_724 : decode code 724 = .ok (.iload_n 3, 1) := by decide +kernel
theorem d_law_law_725 : decode code 725 = .ok (.iconst 1, 1) := by decide +kernel
theorem d_law_law_726 : decode code 726 = .ok (.iadd, 1) := by decide +kernel
theorem d_law_law_727 : decode code 727 = .ok (.iaload, 1) := by decide +kernel
theorem d_law_law_728 : decode code 728 = .ok (.aload_n 0, 1) := by decide +kernel
theorem d_law_law_729 : decode code 729 = .ok (.iload_n 3, 1) := by decide +kernel
theorem d_law_law_730 : decode code 730 = .ok (.iconst 2, 1) := by decide +kernel
theorem d_law_law_731 : decode code 731 = .ok (.iadd, 1) := by decide +kernel
theorem d_law_law_732 : decode code 732 = .ok (.iaload, 1) := by decide +kernel
theorem d_law_law_733 : decode code 733 = .ok (.aload_n 0, 1) := by decide +kernel
theorem d_law_law_734 : decode code 734 = .ok (.iload_n 3, 1) := by decide +kernel
theorem d_law_law_735 : decode code 735 = .ok (.iconst 3, 1) := by decide +kernel
theorem d_law_law_736 : decode code 736 = .ok (.iadd, 1) := by decide +kernel
theorem d_law_law_737 : decode code 737 = .ok (.iaload, 1) := by decide +kernel
theorem d_law_law_738 : decode code 738 = .ok (.aload_n 0, 1) := by decide +kernel
theorem d_law_law_739 : decode code 739 = .ok (.iload_n 3, 1) := by decide +kernel
theorem d_law_law_740 : decode code 740 = .ok (.iconst 4, 1) := by decide +kernel
theorem d_law_law_741 : decode code 741 = .ok (.iadd, 1) := by decide +kernel
theorem d_law_law_742 : decode code 742 = .ok (.iaload, 1) := by decide +kernel
theorem d_law_law_743 : decode code 743 = .ok (.invokevirtual 75, 3) := by decide +kernel
theorem d_law_law_746 : decode code 746 = .ok (.aload_n 2, 1) := by decide +kernel
theorem d_law_law_747 : decode code 747 = .ok (.aload_n 0, 1) := by decide +kernel
theorem d_law_law_748 : decode code 748 = .ok (.iload_n 3, 1) := by decide +kernel
theorem d_law_law_749 : decode code 749 = .ok (.iconst 1, 1) := by decide +kernel
theorem d_law_law_750 : decode code 750 = .ok (.iadd, 1) := by decide +kernel
theorem d_law_law_751 : decode code 751 = .ok (.iaload, 1) := by decide +kernel
theorem d_law_law_752 : decode code 752 = .ok (.aload_n 0, 1) := by decide +kernel
theorem d_law_law_753 : decode code 753 = .ok (.iload_n 3, 1) := by decide +kernel
theorem d_law_law_754 : decode code 754 = .ok (.iconst 2, 1) := by decide +kernel
theorem d_law_law_755 : decode code 755 = .ok (.iadd, 1) := by decide +kernel
theorem d_law_law_756 : decode code 756 = .ok (.iaload, 1) := by decide +kernel
theorem d_law_law_757 : decode code 757 = .ok (.aload_n 0, 1) := by decide +kernel
theorem d_law_law_758 : decode code 758 = .ok (.iload_n 3, 1) := by decide +kernel
theorem d_law_law_759 : decode code 759 = .ok (.iconst 3, 1) := by decide +kernel
theorem d_law_law_760 : decode code 760 = .ok (.iadd, 1) := by decide +kernel
theorem d_law_law_761 : decode code 761 = .ok (.iaload, 1) := by decide +kernel
theorem d_law_law_762 : decode code 762 = .ok (.aload_n 0, 1) := by decide +kernel
theorem d_law_law_763 : decode code 763 = .ok (.iload_n 3, 1) := by decide +kernel
theorem d_law_law_764 : decode code 764 = .ok (.iconst 4, 1) := by decide +kernel
theorem d_law_law_765 : decode code 765 = .ok (.iadd, 1) := by decide +kernel
theorem d_law_law_766 : decode code 766 = .ok (.iaload, 1) := by decide +kernel
theorem d_law_law_767 : decode code 767 = .ok (.invokevirtual 79, 3) := by decide +kernel
theorem d_law_law_770 : decode code 770 = .ok (.if_icmp .eq 657, 3) := by decide +kernel
theorem d_law_law_775 : decode code 775 = .ok (.aload_n 1, 1) := by decide +kernel
theorem d_law_law_776 : decode code 776 = .ok (.aload_n 0, 1) := by decide +kernel
theorem d_law_law_777 : decode code 777 = .ok (.iload_n 3, 1) := by decide +kernel
theorem d_law_law_778 : decode code 778 = .ok (.iconst 1, 1) := by decide +kernel
theorem d_law_law_779 : decode code 779 = .ok (.iadd, 1) := by decide +kernel
theorem d_law_law_780 : decode code 780 = .ok (.iaload, 1) := by decide +kernel
theorem d_law_law_781 : decode code 781 = .ok (.aload_n 0, 1) := by decide +kernel
theorem d_law_law_782 : decode code 782 = .ok (.iload_n 3, 1) := by decide +kernel
theorem d_law_law_783 : decode code 783 = .ok (.iconst 2, 1) := by decide +kernel
theorem d_law_law_784 : decode code 784 = .ok (.iadd, 1) := by decide +kernel
theorem d_law_law_785 : decode code 785 = .ok (.iaload, 1) := by decide +kernel
theorem d_law_law_786 : decode code 786 = .ok (.aload_n 0, 1) := by decide +kernel
theorem d_law_law_787 : decode code 787 = .ok (.iload_n 3, 1) := by decide +kernel
theorem d_law_law_788 : decode code 788 = .ok (.iconst 3, 1) := by decide +kernel
theorem d_law_law_789 : decode code 789 = .ok (.iadd, 1) := by decide +kernel
theorem d_law_law_790 : decode code 790 = .ok (.iaload, 1) := by decide +kernel
theorem d_law_law_791 : decode code 791 = .ok (.aload_n 0, 1) := by decide +kernel
theorem d_law_law_792 : decode code 792 = .ok (.iload_n 3, 1) := by decide +kernel
theorem d_law_law_793 : decode code 793 = .ok (.iconst 4, 1) := by decide +kernel
theorem d_law_law_794 : decode code 794 = .ok (.iadd, 1) := by decide +kernel
theorem d_law_law_795 : decode code 795 = .ok (.iaload, 1) := by decide +kernel
theorem d_law_law_796 : decode code 796 = .ok (.invokevirtual 80, 3) := by decide +kernel
theorem d_law_law_799 : decode code 799 = .ok (.aload_n 2, 1) := by decide +kernel
theorem d_law_law_800 : decode code 800 = .ok (.aload_n 0, 1) := by decide +kernel
theorem d_law_law_801 : decode code 801 = .ok (.iload_n 3, 1) := by decide +kernel
theorem d_law_law_802 : decode code 802 = .ok (.iconst 1, 1) := by decide +kernel
theorem d_law_law_803 : decode code 803 = .ok (.iadd, 1) := by decide +kernel
theorem d_law_law_804 : decode code 804 = .ok (.iaload, 1) := by decide +kernel
theorem d_law_law_805 : decode code 805 = .ok (.aload_n 0, 1) := by decide +kernel
theorem d_law_law_806 : decode code 806 = .ok (.iload_n 3, 1) := by decide +kernel
theorem d_law_law_807 : decode code 807 = .ok (.iconst 2, 1) := by decide +kernel
theorem d_law_law_808 : decode code 808 = .ok (.iadd, 1) := by decide +kernel
theorem d_law_law_809 : decode code 809 = .ok (.iaload, 1) := by decide +kernel
theorem d_law_law_810 : decode code 810 = .ok (.aload_n 0, 1) := by decide +kernel
theorem d_law_law_811 : decode code 811 = .ok (.iload_n 3, 1) := by decide +kernel
theorem d_law_law_812 : decode code 812 = .ok (.iconst 3, 1) := by decide +kernel
theorem d_law_law_813 : decode code 813 = .ok (.iadd, 1) := by decide +kernel
theorem d_law_law_814 : decode code 814 = .ok (.iaload, 1) := by decide +kernel
theorem d_law_law_815 : decode code 815 = .ok (.aload_n 0, 1) := by decide +kernel
theorem d_law_law_816 : decode code 816 = .ok (.iload_n 3, 1) := by decide +kernel
theorem d_law_law_817 : decode code 817 = .ok (.iconst 4, 1) := by decide +kernel
theorem d_law_law_818 : decode code 818 = .ok (.iadd, 1) := by decide +kernel
theorem d_law_law_819 : decode code 819 = .ok (.iaload, 1) := by decide +kernel
theorem d_law_law_820 : decode code 820 = .ok (.invokevirtual 83, 3) := by decide +kernel
theorem d_law_law_823 : decode code 823 = .ok (.if_icmp .eq 604, 3) := by decide +kernel
theorem d_law_law_828 : decode code 828 = .ok (.aload_n 1, 1) := by decide +kernel
theorem d_law_law_829 : decode code 829 = .ok (.aload_n 0, 1) := by decide +kernel
theorem d_law_law_830 : decode code 830 = .ok (.iload_n 3, 1) := by decide +kernel
theorem d_law_law_831 : decode code 831 = .ok (.iconst 1, 1) := by decide +kernel
theorem d_law_law_832 : decode code 832 = .ok (.iadd, 1) := by decide +kernel
theorem d_law_law_833 : decode code 833 = .ok (.iaload, 1) := by decide +kernel
theorem d_law_law_834 : decode code 834 = .ok (.aload_n 0, 1) := by decide +kernel
theorem d_law_law_835 : decode code 835 = .ok (.iload_n 3, 1) := by decide +kernel
theorem d_law_law_836 : decode code 836 = .ok (.iconst 2, 1) := by decide +kernel
theorem d_law_law_837 : decode code 837 = .ok (.iadd, 1) := by decide +kernel
theorem d_law_law_838 : decode code 838 = .ok (.iaload, 1) := by decide +kernel
theorem d_law_law_839 : decode code 839 = .ok (.aload_n 0, 1) := by decide +kernel
theorem d_law_law_840 : decode code 840 = .ok (.iload_n 3, 1) := by decide +kernel
theorem d_law_law_841 : decode code 841 = .ok (.iconst 3, 1) := by decide +kernel
theorem d_law_law_842 : decode code 842 = .ok (.iadd, 1) := by decide +kernel
theorem d_law_law_843 : decode code 843 = .ok (.iaload, 1) := by decide +kernel
theorem d_law_law_844 : decode code 844 = .ok (.aload_n 0, 1) := by decide +kernel
theorem d_law_law_845 : decode code 845 = .ok (.iload_n 3, 1) := by decide +kernel
theorem d_law_law_846 : decode code 846 = .ok (.iconst 4, 1) := by decide +kernel
theorem d_law_law_847 : decode code 847 = .ok (.iadd, 1) := by decide +kernel
theorem d_law_law_848 : decode code 848 = .ok (.iaload, 1) := by decide +kernel
theorem d_law_law_849 : decode code 849 = .ok (.invokevirtual 84, 3) := by decide +kernel
theorem d_law_law_852 : decode code 852 = .ok (.aload_n 2, 1) := by decide +kernel
theorem d_law_law_853 : decode code 853 = .ok (.aload_n 0, 1) := by decide +kernel
theorem d_law_law_854 : decode code 854 = .ok (.iload_n 3, 1) := by decide +kernel
theorem d_law_law_855 : decode code 855 = .ok (.iconst 1, 1) := by decide +kernel
theorem d_law_law_856 : decode code 856 = .ok (.iadd, 1) := by decide +kernel
theorem d_law_law_857 : decode code 857 = .ok (.iaload, 1) := by decide +kernel
theorem d_law_law_858 : decode code 858 = .ok (.aload_n 0, 1) := by decide +kernel
theorem d_law_law_859 : decode code 859 = .ok (.iload_n 3, 1) := by decide +kernel
theorem d_law_law_860 : decode code 860 = .ok (.iconst 2, 1) := by decide +kernel
theorem d_law_law_861 : decode code 861 = .ok (.iadd, 1) := by decide +kernel
theorem d_law_law_862 : decode code 862 = .ok (.iaload, 1) := by decide +kernel
theorem d_law_law_863 : decode code 863 = .ok (.aload_n 0, 1) := by decide +kernel
theorem d_law_law_864 : decode code 864 = .ok (.iload_n 3, 1) := by decide +kernel
theorem d_law_law_865 : decode code 865 = .ok (.iconst 3, 1) := by decide +kernel
theorem d_law_law_866 : decode code 866 = .ok (.iadd, 1) := by decide +kernel
theorem d_law_law_867 : decode code 867 = .ok (.iaload, 1) := by decide +kernel
theorem d_law_law_868 : decode code 868 = .ok (.aload_n 0, 1) := by decide +kernel
theorem d_law_law_869 : decode code 869 = .ok (.iload_n 3, 1) := by decide +kernel
theorem d_law_law_870 : decode code 870 = .ok (.iconst 4, 1) := by decide +kernel
theorem d_law_law_871 : decode code 871 = .ok (.iadd, 1) := by decide +kernel
theorem d_law_law_872 : decode code 872 = .ok (.iaload, 1) := by decide +kernel
theorem d_law_law_873 : decode code 873 = .ok (.invokevirtual 87, 3) := by decide +kernel
theorem d_law_law_876 : decode code 876 = .ok (.if_icmp .eq 551, 3) := by decide +kernel
theorem d_law_law_881 : decode code 881 = .ok (.aload_n 1, 1) := by decide +kernel
theorem d_law_law_882 : decode code 882 = .ok (.aload_n 0, 1) := by decide +kernel
theorem d_law_law_883 : decode code 883 = .ok (.iload_n 3, 1) := by decide +kernel
theorem d_law_law_884 : decode code 884 = .ok (.iconst 1, 1) := by decide +kernel
theorem d_law_law_885 : decode code 885 = .ok (.iadd, 1) := by decide +kernel
theorem d_law_law_886 : decode code 886 = .ok (.iaload, 1) := by decide +kernel
theorem d_law_law_887 : decode code 887 = .ok (.aload_n 0, 1) := by decide +kernel
theorem d_law_law_888 : decode code 888 = .ok (.iload_n 3, 1) := by decide +kernel
theorem d_law_law_889 : decode code 889 = .ok (.iconst 2, 1) := by decide +kernel
theorem d_law_law_890 : decode code 890 = .ok (.iadd, 1) := by decide +kernel
theorem d_law_law_891 : decode code 891 = .ok (.iaload, 1) := by decide +kernel
theorem d_law_law_892 : decode code 892 = .ok (.aload_n 0, 1) := by decide +kernel
theorem d_law_law_893 : decode code 893 = .ok (.iload_n 3, 1) := by decide +kernel
theorem d_law_law_894 : decode code 894 = .ok (.iconst 3, 1) := by decide +kernel
theorem d_law_law_895 : decode code 895 = .ok (.iadd, 1) := by decide +kernel
theorem d_law_law_896 : decode code 896 = .ok (.iaload, 1) := by decide +kernel
theorem d_law_law_897 : decode code 897 = .ok (.aload_n 0, 1) := by decide +kernel
theorem d_law_law_898 : decode code 898 = .ok (.iload_n 3, 1) := by decide +kernel
theorem d_law_law_899 : decode code 899 = .ok (.iconst 4, 1) := by decide +kernel
theorem d_law_law_900 : decode code 900 = .ok (.iadd, 1) := by decide +kernel
theorem d_law_law_901 : decode code 901 = .ok (.iaload, 1) := by decide +kernel
theorem d_law_law_902 : decode code 902 = .ok (.aload_n 0, 1) := by decide +kernel
theorem d_law_law_903 : decode code 903 = .ok (.iload_n 3, 1) := by decide +kernel
theorem d_law_law_904 : decode code 904 = .ok (.iconst 5, 1) := by decide +kernel
theorem d_law_law_905 : decode code 905 = .ok (.iadd, 1) := by decide +kernel
theorem d_law_law_906 : decode code 906 = .ok (.iaload, 1) := by decide +kernel
theorem d_law_law_907 : decode code 907 = .ok (.invokevirtual 88, 3) := by decide +kernel
theorem d_law_law_910 : decode code 910 = .ok (.aload_n 2, 1) := by decide +kernel
theorem d_law_law_911 : decode code 911 = .ok (.aload_n 0, 1) := by decide +kernel
theorem d_law_law_912 : decode code 912 = .ok (.iload_n 3, 1) := by decide +kernel
theorem d_law_law_913 : decode code 913 = .ok (.iconst 1, 1) := by decide +kernel
theorem d_law_law_914 : decode code 914 = .ok (.iadd, 1) := by decide +kernel
theorem d_law_law_915 : decode code 915 = .ok (.iaload, 1) := by decide +kernel
theorem d_law_law_916 : decode code 916 = .ok (.aload_n 0, 1) := by decide +kernel
theorem d_law_law_917 : decode code 917 = .ok (.iload_n 3, 1) := by decide +kernel
theorem d_law_law_918 : decode code 918 = .ok (.iconst 2, 1) := by decide +kernel
theorem d_law_law_919 : decode code 919 = .ok (.iadd, 1) := by decide +kernel
theorem d_law_law_920 : decode code 920 = .ok (.iaload, 1) := by decide +kernel
theorem d_law_law_921 : decode code 921 = .ok (.aload_n 0, 1) := by decide +kernel
theorem d_law_law_922 : decode code 922 = .ok (.iload_n 3, 1) := by decide +kernel
theorem d_law_law_923 : decode code 923 = .ok (.iconst 3, 1) := by decide +kernel
theorem d_law_law_924 : decode code 924 = .ok (.iadd, 1) := by decide +kernel
theorem d_law_law_925 : decode code 925 = .ok (.iaload, 1) := by decide +kernel
theorem d_law_law_926 : decode code 926 = .ok (.aload_n 0, 1) := by decide +kernel
theorem d_law_law_927 : decode code 927 = .ok (.iload_n 3, 1) := by decide +kernel
theorem d_law_law_928 : decode code 928 = .ok (.iconst 4, 1) := by decide +kernel
theorem d_law_law_929 : decode code 929 = .ok (.iadd, 1) := by decide +kernel
theorem d_law_law_930 : decode code 930 = .ok (.iaload, 1) := by decide +kernel
theorem d_law_law_931 : decode code 931 = .ok (.aload_n 0, 1) := by decide +kernel
theorem d_law_law_932 : decode code 932 = .ok (.iload_n 3, 1) := by decide +kernel
theorem d_law_law_933 : decode code 933 = .ok (.iconst 5, 1) := by decide +kernel
theorem d_law_law_934 : decode code 934 = .ok (.iadd, 1) := by decide +kernel
theorem d_law_law_935 : decode code 935 = .ok (.iaload, 1) := by decide +kernel
theorem d_law_law_936 : decode code 936 = .ok (.invokevirtual 91, 3) := by decide +kernel
theorem d_law_law_939 : decode code 939 = .ok (.if_icmp .eq 488, 3) := by decide +kernel
theorem d_law_law_944 : decode code 944 = .ok (.aload_n 1, 1) := by decide +kernel
theorem d_law_law_945 : decode code 945 = .ok (.aload_n 0, 1) := by decide +kernel
theorem d_law_law_946 : decode code 946 = .ok (.iload_n 3, 1) := by decide +kernel
theorem d_law_law_947 : decode code 947 = .ok (.iconst 1, 1) := by decide +kernel
theorem d_law_law_948 : decode code 948 = .ok (.iadd, 1) := by decide +kernel
theorem d_law_law_949 : decode code 949 = .ok (.iaload, 1) := by decide +kernel
theorem d_law_law_950 : decode code 950 = .ok (.aload_n 0, 1) := by decide +kernel
theorem d_law_law_951 : decode code 951 = .ok (.iload_n 3, 1) := by decide +kernel
theorem d_law_law_952 : decode code 952 = .ok (.iconst 2, 1) := by decide +kernel
theorem d_law_law_953 : decode code 953 = .ok (.iadd, 1) := by decide +kernel
theorem d_law_law_954 : decode code 954 = .ok (.iaload, 1) := by decide +kernel
theorem d_law_law_955 : decode code 955 = .ok (.aload_n 0, 1) := by decide +kernel
theorem d_law_law_956 : decode code 956 = .ok (.iload_n 3, 1) := by decide +kernel
theorem d_law_law_957 : decode code 957 = .ok (.iconst 3, 1) := by decide +kernel
theorem d_law_law_958 : decode code 958 = .ok (.iadd, 1) := by decide +kernel
theorem d_law_law_959 : decode code 959 = .ok (.iaload, 1) := by decide +kernel
theorem d_law_law_960 : decode code 960 = .ok (.aload_n 0, 1) := by decide +kernel
theorem d_law_law_961 : decode code 961 = .ok (.iload_n 3, 1) := by decide +kernel
theorem d_law_law_962 : decode code 962 = .ok (.iconst 4, 1) := by decide +kernel
theorem d_law_law_963 : decode code 963 = .ok (.iadd, 1) := by decide +kernel
theorem d_law_law_964 : decode code 964 = .ok (.iaload, 1) := by decide +kernel
theorem d_law_law_965 : decode code 965 = .ok (.invokevirtual 92, 3) := by decide +kernel
theorem d_law_law_968 : decode code 968 = .ok (.aload_n 2, 1) := by decide +kernel
theorem d_law_law_969 : decode code 969 = .ok (.aload_n 0, 1) := by decide +kernel
theorem d_law_law_970 : decode code 970 = .ok (.iload_n 3, 1) := by decide +kernel
theorem d_law_law_971 : decode code 971 = .ok (.iconst 1, 1) := by decide +kernel
theorem d_law_law_972 : decode code 972 = .ok (.iadd, 1) := by decide +kernel
theorem d_law_law_973 : decode code 973 = .ok (.iaload, 1) := by decide +kernel
theorem d_law_law_974 : decode code 974 = .ok (.aload_n 0, 1) := by decide +kernel
theorem d_law_law_975 : decode code 975 = .ok (.iload_n 3, 1) := by decide +kernel
theorem d_law_law_976 : decode code 976 = .ok (.iconst 2, 1) := by decide +kernel
theorem d_law_law_977 : decode code 977 = .ok (.iadd, 1) := by decide +kernel
theorem d_law_law_978 : decode code 978 = .ok (.iaload, 1) := by decide +kernel
theorem d_law_law_979 : decode code 979 = .ok (.aload_n 0, 1) := by decide +kernel
theorem d_law_law_980 : decode code 980 = .ok (.iload_n 3, 1) := by decide +kernel
theorem d_law_law_981 : decode code 981 = .ok (.iconst 3, 1) := by decide +kernel
theorem d_law_law_982 : decode code 982 = .ok (.iadd, 1) := by decide +kernel
theorem d_law_law_983 : decode code 983 = .ok (.iaload, 1) := by decide +kernel
theorem d_law_law_984 : decode code 984 = .ok (.aload_n 0, 1) := by decide +kernel
theorem d_law_law_985 : decode code 985 = .ok (.iload_n 3, 1) := by decide +kernel
theorem d_law_law_986 : decode code 986 = .ok (.iconst 4, 1) := by decide +kernel
theorem d_law_law_987 : decode code 987 = .ok (.iadd, 1) := by decide +kernel
theorem d_law_law_988 : decode code 988 = .ok (.iaload, 1) := by decide +kernel
theorem d_law_law_989 : decode code 989 = .ok (.invokevirtual 95, 3) := by decide +kernel
theorem d_law_law_992 : decode code 992 = .ok (.if_icmp .eq 435, 3) := by decide +kernel
theorem d_law_law_997 : decode code 997 = .ok (.aload_n 1, 1) := by decide +kernel
theorem d_law_law_998 : decode code 998 = .ok (.aload_n 0, 1) := by decide +kernel
theorem d_law_law_999 : decode code 999 = .ok (.iload_n 3, 1) := by decide +kernel
theorem d_law_law_1000 : decode code 1000 = .ok (.iconst 1, 1) := by decide +kernel
theorem d_law_law_1001 : decode code 1001 = .ok (.iadd, 1) := by decide +kernel
theorem d_law_law_1002 : decode code 1002 = .ok (.iaload, 1) := by decide +kernel
theorem d_law_law_1003 : decode code 1003 = .ok (.aload_n 0, 1) := by decide +kernel
theorem d_law_law_1004 : decode code 1004 = .ok (.iload_n 3, 1) := by decide +kernel
theorem d_law_law_1005 : decode code 1005 = .ok (.iconst 2, 1) := by decide +kernel
theorem d_law_law_1006 : decode code 1006 = .ok (.iadd, 1) := by decide +kernel
theorem d_law_law_1007 : decode code 1007 = .ok (.iaload, 1) := by decide +kernel
theorem d_law_law_1008 : decode code 1008 = .ok (.aload_n 0, 1) := by decide +kernel
theorem d_law_law_1009 : decode code 1009 = .ok (.iload_n 3, 1) := by decide +kernel
theorem d_law_law_1010 : decode code 1010 = .ok (.iconst 3, 1) := by decide +kernel
theorem d_law_law_1011 : decode code 1011 = .ok (.iadd, 1) := by decide +kernel
theorem d_law_law_1012 : decode code 1012 = .ok (.iaload, 1) := by decide +kernel
theorem d_law_law_1013 : decode code 1013 = .ok (.aload_n 0, 1) := by decide +kernel
theorem d_law_law_1014 : decode code 1014 = .ok (.iload_n 3, 1) := by decide +kernel
theorem d_law_law_1015 : decode code 1015 = .ok (.iconst 4, 1) := by decide +kernel
theorem d_law_law_1016 : decode code 1016 = .ok (.iadd, 1) := by decide +kernel
theorem d_law_law_1017 : decode code 1017 = .ok (.iaload, 1) := by decide +kernel
theorem d_law_law_1018 : decode code 1018 = .ok (.aload_n 0, 1) := by decide +kernel
theorem d_law_law_1019 : decode code 1019 = .ok (.iload_n 3, 1) := by decide +kernel
theorem d_law_law_1020 : decode code 1020 = .ok (.iconst 5, 1) := by decide +kernel
theorem d_law_law_1021 : decode code 1021 = .ok (.iadd, 1) := by decide +kernel
theorem d_law_law_1022 : decode code 1022 = .ok (.iaload, 1) := by decide +kernel
theorem d_law_law_1023 : decode code 1023 = .ok (.invokevirtual 96, 3) := by decide +kernel
theorem d_law_law_1026 : decode code 1026 = .ok (.aload_n 2, 1) := by decide +kernel
theorem d_law_law_1027 : decode code 1027 = .ok (.aload_n 0, 1) := by decide +kernel
theorem d_law_law_1028 : decode code 1028 = .ok (.iload_n 3, 1) := by decide +kernel
theorem d_law_law_1029 : decode code 1029 = .ok (.iconst 1, 1) := by decide +kernel
theorem d_law_law_1030 : decode code 1030 = .ok (.iadd, 1) := by decide +kernel
theorem d_law_law_1031 : decode code 1031 = .ok (.iaload, 1) := by decide +kernel
theorem d_law_law_1032 : decode code 1032 = .ok (.aload_n 0, 1) := by decide +kernel
theorem d_law_law_1033 : decode code 1033 = .ok (.iload_n 3, 1) := by decide +kernel
theorem d_law_law_1034 : decode code 1034 = .ok (.iconst 2, 1) := by decide +kernel
theorem d_law_law_1035 : decode code 1035 = .ok (.iadd, 1) := by decide +kernel
theorem d_law_law_1036 : decode code 1036 = .ok (.iaload, 1) := by decide +kernel
theorem d_law_law_1037 : decode code 1037 = .ok (.aload_n 0, 1) := by decide +kernel
theorem d_law_law_1038 : decode code 1038 = .ok (.iload_n 3, 1) := by decide +kernel
theorem d_law_law_1039 : decode code 1039 = .ok (.iconst 3, 1) := by decide +kernel
theorem d_law_law_1040 : decode code 1040 = .ok (.iadd, 1) := by decide +kernel
theorem d_law_law_1041 : decode code 1041 = .ok (.iaload, 1) := by decide +kernel
theorem d_law_law_1042 : decode code 1042 = .ok (.aload_n 0, 1) := by decide +kernel
theorem d_law_law_1043 : decode code 1043 = .ok (.iload_n 3, 1) := by decide +kernel
theorem d_law_law_1044 : decode code 1044 = .ok (.iconst 4, 1) := by decide +kernel
theorem d_law_law_1045 : decode code 1045 = .ok (.iadd, 1) := by decide +kernel
theorem d_law_law_1046 : decode code 1046 = .ok (.iaload, 1) := by decide +kernel
theorem d_law_law_1047 : decode code 1047 = .ok (.aload_n 0, 1) := by decide +kernel
theorem d_law_law_1048 : decode code 1048 = .ok (.iload_n 3, 1) := by decide +kernel
theorem d_law_law_1049 : decode code 1049 = .ok (.iconst 5, 1) := by decide +kernel
theorem d_law_law_1050 : decode code 1050 = .ok (.iadd, 1) := by decide +kernel
theorem d_law_law_1051 : decode code 1051 = .ok (.iaload, 1) := by decide +kernel
theorem d_law_law_1052 : decode code 1052 = .ok (.invokevirtual 99, 3) := by decide +kernel
theorem d_law_law_1055 : decode code 1055 = .ok (.if_icmp .eq 372, 3) := by decide +kernel
theorem d_law_law_1060 : decode code 1060 = .ok (.aload_n 1, 1) := by decide +kernel
theorem d_law_law_1061 : decode code 1061 = .ok (.aload_n 0, 1) := by decide +kernel
theorem d_law_law_1062 : decode code 1062 = .ok (.iload_n 3, 1) := by decide +kernel
theorem d_law_law_1063 : decode code 1063 = .ok (.iconst 1, 1) := by decide +kernel
theorem d_law_law_1064 : decode code 1064 = .ok (.iadd, 1) := by decide +kernel
theorem d_law_law_1065 : decode code 1065 = .ok (.iaload, 1) := by decide +kernel
theorem d_law_law_1066 : decode code 1066 = .ok (.aload_n 0, 1) := by decide +kernel
theorem d_law_law_1067 : decode code 1067 = .ok (.iload_n 3, 1) := by decide +kernel
theorem d_law_law_1068 : decode code 1068 = .ok (.iconst 2, 1) := by decide +kernel
theorem d_law_law_1069 : decode code 1069 = .ok (.iadd, 1) := by decide +kernel
theorem d_law_law_1070 : decode code 1070 = .ok (.iaload, 1) := by decide +kernel
theorem d_law_law_1071 : decode code 1071 = .ok (.aload_n 0, 1) := by decide +kernel
theorem d_law_law_1072 : decode code 1072 = .ok (.iload_n 3, 1) := by decide +kernel
theorem d_law_law_1073 : decode code 1073 = .ok (.iconst 3, 1) := by decide +kernel
theorem d_law_law_1074 : decode code 1074 = .ok (.iadd, 1) := by decide +kernel
theorem d_law_law_1075 : decode code 1075 = .ok (.iaload, 1) := by decide +kernel
theorem d_law_law_1076 : decode code 1076 = .ok (.aload_n 0, 1) := by decide +kernel
theorem d_law_law_1077 : decode code 1077 = .ok (.iload_n 3, 1) := by decide +kernel
theorem d_law_law_1078 : decode code 1078 = .ok (.iconst 4, 1) := by decide +kernel
theorem d_law_law_1079 : decode code 1079 = .ok (.iadd, 1) := by decide +kernel
theorem d_law_law_1080 : decode code 1080 = .ok (.iaload, 1) := by decide +kernel
theorem d_law_law_1081 : decode code 1081 = .ok (.aload_n 0, 1) := by decide +kernel
theorem d_law_law_1082 : decode code 1082 = .ok (.iload_n 3, 1) := by decide +kernel
theorem d_law_law_1083 : decode code 1083 = .ok (.iconst 5, 1) := by decide +kernel
theorem d_law_law_1084 : decode code 1084 = .ok (.iadd, 1) := by decide +kernel
theorem d_law_law_1085 : decode code 1085 = .ok (.iaload, 1) := by decide +kernel
theorem d_law_law_1086 : decode code 1086 = .ok (.aload_n 0, 1) := by decide +kernel
theorem d_law_law_1087 : decode code 1087 = .ok (.iload_n 3, 1) := by decide +kernel
theorem d_law_law_1088 : decode code 1088 = .ok (.bipush 6, 2) := by decide +kernel
theorem d_law_law_1090 : decode code 1090 = .ok (.iadd, 1) := by decide +kernel
theorem d_law_law_1091 : decode code 1091 = .ok (.iaload, 1) := by decide +kernel
theorem d_law_law_1092 : decode code 1092 = .ok (.invokevirtual 100, 3) := by decide +kernel
theorem d_law_law_1095 : decode code 1095 = .ok (.aload_n 2, 1) := by decide +kernel
theorem d_law_law_1096 : decode code 1096 = .ok (.aload_n 0, 1) := by decide +kernel
theorem d_law_law_1097 : decode code 1097 = .ok (.iload_n 3, 1) := by decide +kernel
theorem d_law_law_1098 : decode code 1098 = .ok (.iconst 1, 1) := by decide +kernel
theorem d_law_law_1099 : decode code 1099 = .ok (.iadd, 1) := by decide +kernel
theorem d_law_law_1100 : decode code 1100 = .ok (.iaload, 1) := by decide +kernel
