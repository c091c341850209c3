theorem dW_law_618 : decode code 618 = .ok (.ireturn, 1) := by decide +kernel
theorem dW_law_619 : decode code 619 = .ok (.aload_n 1, 1) := by decide +kernel
theorem dW_law_620 : decode code 620 = .ok (.invokevirtual 64, 3) := by decide +kernel
theorem dW_law_623 : decode code 623 = .ok (.aload_n 2, 1) := by decide +kernel
theorem dW_law_624 : decode code 624 = .ok (.invokevirtual 67, 3) := by decide +kernel
theorem dW_law_627 : decode code 627 = .ok (.if_icmp .eq 494, 3) := by decide +kernel
theorem dW_law_630 : decode code 630 = .ok (.iconst 0, 1) := by decide +kernel
theorem dW_law_631 : decode code 631 = .ok (.ireturn, 1) := by decide +kernel
theorem dW_law_632 : decode code 632 = .ok (.aload_n 1, 1) := by decide +kernel
theorem dW_law_633 : decode code 633 = .ok (.invokevirtual 68, 3) := by decide +kernel
theorem dW_law_636 : decode code 636 = .ok (.aload_n 2, 1) := by decide +kernel
theorem dW_law_637 : decode code 637 = .ok (.invokevirtual 71, 3) := by decide +kernel
theorem dW_law_640 : decode code 640 = .ok (.if_icmp .eq 481, 3) := by decide +kernel
theorem dW_law_643 : decode code 643 = .ok (.iconst 0, 1) := by decide +kernel
theorem dW_law_644 : decode code 644 = .ok (.ireturn, 1) := by decide +kernel
theorem dW_law_645 : decode code 645 = .ok (.aload_n 1, 1) := by decide +kernel
theorem dW_law_646 : decode code 646 = .ok (.invokevirtual 72, 3) := by decide +kernel
theorem dW_law_649 : decode code 649 = .ok (.aload_n 2, 1) := by decide +kernel
theorem dW_law_650 : decode code 650 = .ok (.invokevirtual 75, 3) := by decide +kernel
theorem dW_law_653 : decode code 653 = .ok (.if_icmp .eq 468, 3) := by decide +kernel
theorem dW_law_656 : decode code 656 = .ok (.iconst 0, 1) := by decide +kernel
theorem dW_law_657 : decode code 657 = .ok (.ireturn, 1) := by decide +kernel
theorem dW_law_658 : decode code 658 = .ok (.aload_n 1, 1) := by decide +kernel
theorem dW_law_659 : decode code 659 = .ok (.invokevirtual 76, 3) := by decide +kernel
theorem dW_law_662 : decode code 662 = .ok (.aload_n 2, 1) := by decide +kernel
theorem dW_law_663 : decode code 663 = .ok (.invokevirtual 79, 3) := by decide +kernel
theorem dW_law_666 : decode code 666 = .ok (.if_icmp .eq 455, 3) := by decide +kernel
theorem dW_law_669 : decode code 669 = .ok (.iconst 0, 1) := by decide +kernel
theorem dW_law_670 : decode code 670 = .ok (.ireturn, 1) := by decide +kernel
theorem dW_law_671 : decode code 671 = .ok (.aload_n 1, 1) := by decide +kernel
theorem dW_law_672 : decode code 672 = .ok (.aload_n 0, 1) := by decide +kernel
theorem dW_law_673 : decode code 673 = .ok (.iload_n 3, 1) := by decide +kernel
theorem dW_law_674 : decode code 674 = .ok (.iconst 1, 1) := by decide +kernel
theorem dW_law_675 : decode code 675 = .ok (.iadd, 1) := by decide +kernel
theorem dW_law_676 : decode code 676 = .ok (.iaload, 1) := by decide +kernel
theorem dW_law_677 : decode code 677 = .ok (.aload_n 0, 1) := by decide +kernel
theorem dW_law_678 : decode code 678 = .ok (.iload_n 3, 1) := by decide +kernel
theorem dW_law_679 : decode code 679 = .ok (.iconst 2, 1) := by decide +kernel
theorem dW_law_680 : decode code 680 = .ok (.iadd, 1) := by decide +kernel
theorem dW_law_681 : decode code 681 = .ok (.iaload, 1) := by decide +kernel
theorem dW_law_682 : decode code 682 = .ok (.aload_n 0, 1) := by decide +kernel
theorem dW_law_683 : decode code 683 = .ok (.iload_n 3, 1) := by decide +kernel
theorem dW_law_684 : decode code 684 = .ok (.iconst 3, 1) := by decide +kernel
theorem dW_law_685 : decode code 685 = .ok (.iadd, 1) := by decide +kernel
theorem dW_law_686 : decode code 686 = .ok (.iaload, 1) := by decide +kernel
theorem dW_law_687 : decode code 687 = .ok (.invokevirtual 80, 3) := by decide +kernel
theorem dW_law_690 : decode code 690 = .ok (.aload_n 2, 1) := by decide +kernel
theorem dW_law_691 : decode code 691 = .ok (.aload_n 0, 1) := by decide +kernel
theorem dW_law_692 : decode code 692 = .ok (.iload_n 3, 1) := by decide +kernel
theorem dW_law_693 : decode code 693 = .ok (.iconst 1, 1) := by decide +kernel
theorem dW_law_694 : decode code 694 = .ok (.iadd, 1) := by decide +kernel
theorem dW_law_695 : decode code 695 = .ok (.iaload, 1) := by decide +kernel
theorem dW_law_696 : decode code 696 = .ok (.aload_n 0, 1) := by decide +kernel
theorem dW_law_697 : decode code 697 = .ok (.iload_n 3, 1) := by decide +kernel
theorem dW_law_698 : decode code 698 = .ok (.iconst 2, 1) := by decide +kernel
theorem dW_law_699 : decode code 699 = .ok (.iadd, 1) := by decide +kernel
theorem dW_law_700 : decode code 700 = .ok (.iaload, 1) := by decide +kernel
theorem dW_law_701 : decode code 701 = .ok (.aload_n 0, 1) := by decide +kernel
theorem dW_law_702 : decode code 702 = .ok (.iload_n 3, 1) := by decide +kernel
theorem dW_law_703 : decode code 703 = .ok (.iconst 3, 1) := by decide +kernel
theorem dW_law_704 : decode code 704 = .ok (.iadd, 1) := by decide +kernel
theorem dW_law_705 : decode code 705 = .ok (.iaload, 1) := by decide +kernel
theorem dW_law_706 : decode code 706 = .ok (.invokevirtual 83, 3) := by decide +kernel
theorem dW_law_709 : decode code 709 = .ok (.if_icmp .eq 412, 3) := by decide +kernel
theorem dW_law_712 : decode code 712 = .ok (.iconst 0, 1) := by decide +kernel
theorem dW_law_713 : decode code 713 = .ok (.ireturn, 1) := by decide +kernel
theorem dW_law_714 : decode code 714 = .ok (.aload_n 1, 1) := by decide +kernel
theorem dW_law_715 : decode code 715 = .ok (.aload_n 0, 1) := by decide +kernel
theorem dW_law_716 : decode code 716 = .ok (.iload_n 3, 1) := by decide +kernel
theorem dW_law_717 : decode code 717 = .ok (.iconst 1, 1) := by decide +kernel
theorem dW_law_718 : decode code 718 = .ok (.iadd, 1) := by decide +kernel
theorem dW_law_719 : decode code 719 = .ok (.iaload, 1) := by decide +kernel
theorem dW_law_720 : decode code 720 = .ok (.aload_n 0, 1) := by decide +kernel
theorem dW_law_721 : decode code 721 = .ok (.iload_n 3, 1) := by decide +kernel
theorem dW_law_722 : decode code 722 = .ok (.iconst 2, 1) := by decide +kernel
theorem dW_law_723 : decode code 723 = .ok (.iadd, 1) := by decide +kernel
theorem dW_law_724 : decode code 724 = .ok (.iaload, 1) := by decide +kernel
theorem dW_law_725 : decode code 725 = .ok (.aload_n 0, 1) := by decide +kernel
theorem dW_law_726 : decode code 726 = .ok (.iload_n 3, 1) := by decide +kernel
theorem dW_law_727 : decode code 727 = .ok (.iconst 3, 1) := by decide +kernel
theorem dW_law_728 : decode code 728 = .ok (.iadd, 1) := by decide +kernel
theorem dW_law_729 : decode code 729 = .ok (.iaload, 1) := by decide +kernel
theorem dW_law_730 : decode code 730 = .ok (.invokevirtual 84, 3) := by decide +kernel
theorem dW_law_733 : decode code 733 = .ok (.aload_n 2, 1) := by decide +kernel
theorem dW_law_734 : decode code 734 = .ok (.aload_n 0, 1) := by decide +kernel
theorem dW_law_735 : decode code 735 = .ok (.iload_n 3, 1) := by decide +kernel
theorem dW_law_736 : decode code 736 = .ok (.iconst 1, 1) := by decide +kernel
theorem dW_law_737 : decode code 737 = .ok (.iadd, 1) := by decide +kernel
theorem dW_law_738 : decode code 738 = .ok (.iaload, 1) := by decide +kernel
theorem dW_law_739 : decode code 739 = .ok (.aload_n 0, 1) := by decide +kernel
theorem dW_law_740 : decode code 740 = .ok (.iload_n 3, 1) := by decide +kernel
theorem dW_law_741 : decode code 741 = .ok (.iconst 2, 1) := by decide +kernel
theorem dW_law_742 : decode code 742 = .ok (.iadd, 1) := by decide +kernel
theorem dW_law_743 : decode code 743 = .ok (.iaload, 1) := by decide +kernel
theorem dW_law_744 : decode code 744 = .ok (.aload_n 0, 1) := by decide +kernel
theorem dW_law_745 : decode code 745 = .ok (.iload_n 3, 1) := by decide +kernel
theorem dW_law_746 : decode code 746 = .ok (.iconst 3, 1) := by decide +kernel
theorem dW_law_747 : decode code 747 = .ok (.iadd, 1) := by decide +kernel
theorem dW_law_748 : decode code 748 = .ok (.iaload, 1) := by decide +kernel
theorem dW_law_749 : decode code 749 = .ok (.invokevirtual 88, 3) := by decide +kernel
theorem dW_law_752 : decode code 752 = .ok (.lcmp, 1) := by decide +kernel
theorem dW_law_753 : decode code 753 = .ok (.ifCond .eq 368, 3) := by decide +kernel
theorem dW_law_756 : decode code 756 = .ok (.iconst 0, 1) := by decide +kernel
theorem dW_law_757 : decode code 757 = .ok (.ireturn, 1) := by decide +kernel
theorem dW_law_758 : decode code 758 = .ok (.aload_n 1, 1) := by decide +kernel
theorem dW_law_759 : decode code 759 = .ok (.invokevirtual 89, 3) := by decide +kernel
theorem dW_law_762 : decode code 762 = .ok (.aload_n 2, 1) := by decide +kernel
theorem dW_law_763 : decode code 763 = .ok (.invokevirtual 92, 3) := by decide +kernel
theorem dW_law_766 : decode code 766 = .ok (.if_icmp .eq 355, 3) := by decide +kernel
theorem dW_law_769 : decode code 769 = .ok (.iconst 0, 1) := by decide +kernel
theorem dW_law_770 : decode code 770 = .ok (.ireturn, 1) := by decide +kernel
theorem dW_law_771 : decode code 771 = .ok (.aload_n 1, 1) := by decide +kernel
theorem dW_law_772 : decode code 772 = .ok (.invokevirtual 93, 3) := by decide +kernel
theorem dW_law_775 : decode code 775 = .ok (.aload_n 2, 1) := by decide +kernel
theorem dW_law_776 : decode code 776 = .ok (.invokevirtual 96, 3) := by decide +kernel
theorem dW_law_779 : decode code 779 = .ok (.if_icmp .eq 342, 3) := by decide +kernel
theorem dW_law_782 : decode code 782 = .ok (.iconst 0, 1) := by decide +kernel
theorem dW_law_783 : decode code 783 = .ok (.ireturn, 1) := by decide +kernel
theorem dW_law_784 : decode code 784 = .ok (.aload_n 1, 1) := by decide +kernel
theorem dW_law_785 : decode code 785 = .ok (.aload_n 0, 1) := by decide +kernel
theorem dW_law_786 : decode code 786 = .ok (.iload_n 3, 1) := by decide +kernel
theorem dW_law_787 : decode code 787 = .ok (.iconst 1, 1) := by decide +kernel
theorem dW_law_788 : decode code 788 = .ok (.iadd, 1) := by decide +kernel
theorem dW_law_789 : decode code 789 = .ok (.iaload, 1) := by decide +kernel
theorem dW_law_790 : decode code 790 = .ok (.aload_n 0, 1) := by decide +kernel
theorem dW_law_791 : decode code 791 = .ok (.iload_n 3, 1) := by decide +kernel
theorem dW_law_792 : decode code 792 = .ok (.iconst 2, 1) := by decide +kernel
theorem dW_law_793 : decode code 793 = .ok (.iadd, 1) := by decide +kernel
theorem dW_law_794 : decode code 794 = .ok (.iaload, 1) := by decide +kernel
theorem dW_law_795 : decode code 795 = .ok (.aload_n 0, 1) := by decide +kernel
theorem dW_law_796 : decode code 796 = .ok (.iload_n 3, 1) := by decide +kernel
theorem dW_law_797 : decode code 797 = .ok (.iconst 3, 1) := by decide +kernel
theorem dW_law_798 : decode code 798 = .ok (.iadd, 1) := by decide +kernel
theorem dW_law_799 : decode code 799 = .ok (.iaload, 1) := by decide +kernel
theorem dW_law_800 : decode code 800 = .ok (.invokevirtual 97, 3) := by decide +kernel
theorem dW_law_803 : decode code 803 = .ok (.aload_n 2, 1) := by decide +kernel
theorem dW_law_804 : decode code 804 = .ok (.aload_n 0, 1) := by decide +kernel
theorem dW_law_805 : decode code 805 = .ok (.iload_n 3, 1) := by decide +kernel
theorem dW_law_806 : decode code 806 = .ok (.iconst 1, 1) := by decide +kernel
theorem dW_law_807 : decode code 807 = .ok (.iadd, 1) := by decide +kernel
theorem dW_law_808 : decode code 808 = .ok (.iaload, 1) := by decide +kernel
theorem dW_law_809 : decode code 809 = .ok (.aload_n 0, 1) := by decide +kernel
theorem dW_law_810 : decode code 810 = .ok (.iload_n 3, 1) := by decide +kernel
theorem dW_law_811 : decode code 811 = .ok (.iconst 2, 1) := by decide +kernel
theorem dW_law_812 : decode code 812 = .ok (.iadd, 1) := by decide +kernel
theorem dW_law_813 : decode code 813 = .ok (.iaload, 1) := by decide +kernel
theorem dW_law_814 : decode code 814 = .ok (.aload_n 0, 1) := by decide +kernel
theorem dW_law_815 : decode code 815 = .ok (.iload_n 3, 1) := by decide +kernel
theorem dW_law_816 : decode code 816 = .ok (.iconst 3, 1) := by decide +kernel
theorem dW_law_817 : decode code 817 = .ok (.iadd, 1) := by decide +kernel
theorem dW_law_818 : decode code 818 = .ok (.iaload, 1) := by decide +kernel
theorem dW_law_819 : decode code 819 = .ok (.invokevirtual 100, 3) := by decide +kernel
theorem dW_law_822 : decode code 822 = .ok (.if_icmp .eq 299, 3) := by decide +kernel
theorem dW_law_825 : decode code 825 = .ok (.iconst 0, 1) := by decide +kernel
theorem dW_law_826 : decode code 826 = .ok (.ireturn, 1) := by decide +kernel
theorem dW_law_827 : decode code 827 = .ok (.aload_n 1, 1) := by decide +kernel
theorem dW_law_828 : decode code 828 = .ok (.aload_n 0, 1) := by decide +kernel
theorem dW_law_829 : decode code 829 = .ok (.iload_n 3, 1) := by decide +kernel
theorem dW_law_830 : decode code 830 = .ok (.iconst 1, 1) := by decide +kernel
theorem dW_law_831 : decode code 831 = .ok (.iadd, 1) := by decide +kernel
theorem dW_law_832 : decode code 832 = .ok (.iaload, 1) := by decide +kernel
theorem dW_law_833 : decode code 833 = .ok (.aload_n 0, 1) := by decide +kernel
theorem dW_law_834 : decode code 834 = .ok (.iload_n 3, 1) := by decide +kernel
theorem dW_law_835 : decode code 835 = .ok (.iconst 2, 1) := by decide +kernel
theorem dW_law_836 : decode code 836 = .ok (.iadd, 1) := by decide +kernel
theorem dW_law_837 : decode code 837 = .ok (.iaload, 1) := by decide +kernel
theorem dW_law_838 : decode code 838 = .ok (.invokevirtual 101, 3) := by decide +kernel
theorem dW_law_841 : decode code 841 = .ok (.aload_n 2, 1) := by decide +kernel
theorem dW_law_842 : decode code 842 = .ok (.aload_n 0, 1) := by decide +kernel
theorem dW_law_843 : decode code 843 = .ok (.iload_n 3, 1) := by decide +kernel
theorem dW_law_844 : decode code 844 = .ok (.iconst 1, 1) := by decide +kernel
theorem dW_law_845 : decode code 845 = .ok (.iadd, 1) := by decide +kernel
theorem dW_law_846 : decode code 846 = .ok (.iaload, 1) := by decide +kernel
theorem dW_law_847 : decode code 847 = .ok (.aload_n 0, 1) := by decide +kernel
theorem dW_law_848 : decode code 848 = .ok (.iload_n 3, 1) := by decide +kernel
theorem dW_law_849 : decode code 849 = .ok (.iconst 2, 1) := by decide +kernel
theorem dW_law_850 : decode code 850 = .ok (.iadd, 1) := by decide +kernel
theorem dW_law_851 : decode code 851 = .ok (.iaload, 1) := by decide +kernel
theorem dW_law_852 : decode code 852 = .ok (.invokevirtual 104, 3) := by decide +kernel
theorem dW_law_855 : decode code 855 = .ok (.if_icmp .eq 266, 3) := by decide +kernel
theorem dW_law_858 : decode code 858 = .ok (.iconst 0, 1) := by decide +kernel
theorem dW_law_859 : decode code 859 = .ok (.ireturn, 1) := by decide +kernel
theorem dW_law_860 : decode code 860 = .ok (.aload_n 1, 1) := by decide +kernel
theorem dW_law_861 : decode code 861 = .ok (.aload_n 0, 1) := by decide +kernel
theorem dW_law_862 : decode code 862 = .ok (.iload_n 3, 1) := by decide +kernel
theorem dW_law_863 : decode code 863 = .ok (.iconst 1, 1) := by decide +kernel
theorem dW_law_864 : decode code 864 = .ok (.iadd, 1) := by decide +kernel
theorem dW_law_865 : decode code 865 = .ok (.iaload, 1) := by decide +kernel
theorem dW_law_866 : decode code 866 = .ok (.aload_n 0, 1) := by decide +kernel
theorem dW_law_867 : decode code 867 = .ok (.iload_n 3, 1) := by decide +kernel
theorem dW_law_868 : decode code 868 = .ok (.iconst 2, 1) := by decide +kernel
theorem dW_law_869 : decode code 869 = .ok (.iadd, 1) := by decide +kernel
theorem dW_law_870 : decode code 870 = .ok (.iaload, 1) := by decide +kernel
theorem dW_law_871 : decode code 871 = .ok (.aload_n 0, 1) := by decide +kernel
theorem dW_law_872 : decode code 872 = .ok (.iload_n 3, 1) := by decide +kernel
theorem dW_law_873 : decode code 873 = .ok (.iconst 3, 1) := by decide +kernel
theorem dW_law_874 : decode code 874 = .ok (.iadd, 1) := by decide +kernel
theorem dW_law_875 : decode code 875 = .ok (.iaload, 1) := by decide +kernel
theorem dW_law_876 : decode code 876 = .ok (.i2l, 1) := by decide +kernel
theorem dW_law_877 : decode code 877 = .ok (.bipush 32, 2) := by decide +kernel
