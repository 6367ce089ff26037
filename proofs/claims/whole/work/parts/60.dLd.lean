theorem d_L_law_616 : decode code 616 = .ok (.iadd, 1) := by decide +kernel
theorem d_L_law_617 : decode code 617 = .ok (.iaload, 1) := by decide +kernel
theorem d_L_law_618 : decode code 618 = .ok (.invokevirtual 59, 3) := by decide +kernel
theorem d_L_law_621 : decode code 621 = .ok (.if_icmp .eq 197, 3) := by decide +kernel
theorem d_L_law_624 : decode code 624 = .ok (.iconst 0, 1) := by decide +kernel
theorem d_L_law_625 : decode code 625 = .ok (.ireturn, 1) := by decide +kernel
theorem d_L_law_626 : decode code 626 = .ok (.aload_n 1, 1) := by decide +kernel
theorem d_L_law_627 : decode code 627 = .ok (.aload_n 0, 1) := by decide +kernel
theorem d_L_law_628 : decode code 628 = .ok (.iload_n 3, 1) := by decide +kernel
theorem d_L_law_629 : decode code 629 = .ok (.iconst 1, 1) := by decide +kernel
theorem d_L_law_630 : decode code 630 = .ok (.iadd, 1) := by decide +kernel
theorem d_L_law_631 : decode code 631 = .ok (.iaload, 1) := by decide +kernel
theorem d_L_law_632 : decode code 632 = .ok (.invokevirtual 60, 3) := by decide +kernel
theorem d_L_law_635 : decode code 635 = .ok (.aload_n 2, 1) := by decide +kernel
theorem d_L_law_636 : decode code 636 = .ok (.aload_n 0, 1) := by decide +kernel
theorem d_L_law_637 : decode code 637 = .ok (.iload_n 3, 1) := by decide +kernel
theorem d_L_law_638 : decode code 638 = .ok (.iconst 1, 1) := by decide +kernel
theorem d_L_law_639 : decode code 639 = .ok (.iadd, 1) := by decide +kernel
theorem d_L_law_640 : decode code 640 = .ok (.iaload, 1) := by decide +kernel
theorem d_L_law_641 : decode code 641 = .ok (.invokevirtual 64, 3) := by decide +kernel
theorem d_L_law_644 : decode code 644 = .ok (.if_icmp .eq 174, 3) := by decide +kernel
theorem d_L_law_647 : decode code 647 = .ok (.iconst 0, 1) := by decide +kernel
theorem d_L_law_648 : decode code 648 = .ok (.ireturn, 1) := by decide +kernel
theorem d_L_law_649 : decode code 649 = .ok (.aload_n 1, 1) := by decide +kernel
theorem d_L_law_650 : decode code 650 = .ok (.aload_n 0, 1) := by decide +kernel
theorem d_L_law_651 : decode code 651 = .ok (.iload_n 3, 1) := by decide +kernel
theorem d_L_law_652 : decode code 652 = .ok (.iconst 1, 1) := by decide +kernel
theorem d_L_law_653 : decode code 653 = .ok (.iadd, 1) := by decide +kernel
theorem d_L_law_654 : decode code 654 = .ok (.iaload, 1) := by decide +kernel
theorem d_L_law_655 : decode code 655 = .ok (.i2l, 1) := by decide +kernel
theorem d_L_law_656 : decode code 656 = .ok (.bipush 32, 2) := by decide +kernel
theorem d_L_law_658 : decode code 658 = .ok (.lshl, 1) := by decide +kernel
theorem d_L_law_659 : decode code 659 = .ok (.aload_n 0, 1) := by decide +kernel
theorem d_L_law_660 : decode code 660 = .ok (.iload_n 3, 1) := by decide +kernel
theorem d_L_law_661 : decode code 661 = .ok (.iconst 2, 1) := by decide +kernel
theorem d_L_law_662 : decode code 662 = .ok (.iadd, 1) := by decide +kernel
theorem d_L_law_663 : decode code 663 = .ok (.iaload, 1) := by decide +kernel
theorem d_L_law_664 : decode code 664 = .ok (.i2l, 1) := by decide +kernel
theorem d_L_law_665 : decode code 665 = .ok (.ldc2_w 18, 3) := by decide +kernel
theorem d_L_law_668 : decode code 668 = .ok (.land, 1) := by decide +kernel
theorem d_L_law_669 : decode code 669 = .ok (.lor, 1) := by decide +kernel
theorem d_L_law_670 : decode code 670 = .ok (.aload_n 0, 1) := by decide +kernel
theorem d_L_law_671 : decode code 671 = .ok (.iload_n 3, 1) := by decide +kernel
theorem d_L_law_672 : decode code 672 = .ok (.iconst 3, 1) := by decide +kernel
theorem d_L_law_673 : decode code 673 = .ok (.iadd, 1) := by decide +kernel
theorem d_L_law_674 : decode code 674 = .ok (.iaload, 1) := by decide +kernel
theorem d_L_law_675 : decode code 675 = .ok (.invokevirtual 65, 3) := by decide +kernel
theorem d_L_law_678 : decode code 678 = .ok (.aload_n 2, 1) := by decide +kernel
theorem d_L_law_679 : decode code 679 = .ok (.aload_n 0, 1) := by decide +kernel
theorem d_L_law_680 : decode code 680 = .ok (.iload_n 3, 1) := by decide +kernel
theorem d_L_law_681 : decode code 681 = .ok (.iconst 1, 1) := by decide +kernel
theorem d_L_law_682 : decode code 682 = .ok (.iadd, 1) := by decide +kernel
theorem d_L_law_683 : decode code 683 = .ok (.iaload, 1) := by decide +kernel
theorem d_L_law_684 : decode code 684 = .ok (.i2l, 1) := by decide +kernel
theorem d_L_law_685 : decode code 685 = .ok (.bipush 32, 2) := by decide +kernel
theorem d_L_law_687 : decode code 687 = .ok (.lshl, 1) := by decide +kernel
theorem d_L_law_688 : decode code 688 = .ok (.aload_n 0, 1) := by decide +kernel
theorem d_L_law_689 : decode code 689 = .ok (.iload_n 3, 1) := by decide +kernel
theorem d_L_law_690 : decode code 690 = .ok (.iconst 2, 1) := by decide +kernel
theorem d_L_law_691 : decode code 691 = .ok (.iadd, 1) := by decide +kernel
theorem d_L_law_692 : decode code 692 = .ok (.iaload, 1) := by decide +kernel
theorem d_L_law_693 : decode code 693 = .ok (.i2l, 1) := by decide +kernel
theorem d_L_law_694 : decode code 694 = .ok (.ldc2_w 18, 3) := by decide +kernel
theorem d_L_law_697 : decode code 697 = .ok (.land, 1) := by decide +kernel
theorem d_L_law_698 : decode code 698 = .ok (.lor, 1) := by decide +kernel
theorem d_L_law_699 : decode code 699 = .ok (.aload_n 0, 1) := by decide +kernel
theorem d_L_law_700 : decode code 700 = .ok (.iload_n 3, 1) := by decide +kernel
theorem d_L_law_701 : decode code 701 = .ok (.iconst 3, 1) := by decide +kernel
theorem d_L_law_702 : decode code 702 = .ok (.iadd, 1) := by decide +kernel
theorem d_L_law_703 : decode code 703 = .ok (.iaload, 1) := by decide +kernel
theorem d_L_law_704 : decode code 704 = .ok (.invokevirtual 69, 3) := by decide +kernel
theorem d_L_law_707 : decode code 707 = .ok (.if_icmp .eq 111, 3) := by decide +kernel
theorem d_L_law_710 : decode code 710 = .ok (.iconst 0, 1) := by decide +kernel
theorem d_L_law_711 : decode code 711 = .ok (.ireturn, 1) := by decide +kernel
theorem d_L_law_712 : decode code 712 = .ok (.aload_n 1, 1) := by decide +kernel
theorem d_L_law_713 : decode code 713 = .ok (.aload_n 0, 1) := by decide +kernel
theorem d_L_law_714 : decode code 714 = .ok (.iload_n 3, 1) := by decide +kernel
theorem d_L_law_715 : decode code 715 = .ok (.iconst 1, 1) := by decide +kernel
theorem d_L_law_716 : decode code 716 = .ok (.iadd, 1) := by decide +kernel
theorem d_L_law_717 : decode code 717 = .ok (.iaload, 1) := by decide +kernel
theorem d_L_law_718 : decode code 718 = .ok (.aload_n 0, 1) := by decide +kernel
theorem d_L_law_719 : decode code 719 = .ok (.iload_n 3, 1) := by decide +kernel
theorem d_L_law_720 : decode code 720 = .ok (.iconst 2, 1) := by decide +kernel
theorem d_L_law_721 : decode code 721 = .ok (.iadd, 1) := by decide +kernel
theorem d_L_law_722 : decode code 722 = .ok (.iaload, 1) := by decide +kernel
theorem d_L_law_723 : decode code 723 = .ok (.aload_n 0, 1) := by decide +kernel
theorem d_L_law_724 : decode code 724 = .ok (.iload_n 3, 1) := by decide +kernel
theorem d_L_law_725 : decode code 725 = .ok (.iconst 3, 1) := by decide +kernel
theorem d_L_law_726 : decode code 726 = .ok (.iadd, 1) := by decide +kernel
theorem d_L_law_727 : decode code 727 = .ok (.iaload, 1) := by decide +kernel
theorem d_L_law_728 : decode code 728 = .ok (.i2l, 1) := by decide +kernel
theorem d_L_law_729 : decode code 729 = .ok (.bipush 32, 2) := by decide +kernel
theorem d_L_law_731 : decode code 731 = .ok (.lshl, 1) := by decide +kernel
theorem d_L_law_732 : decode code 732 = .ok (.aload_n 0, 1) := by decide +kernel
theorem d_L_law_733 : decode code 733 = .ok (.iload_n 3, 1) := by decide +kernel
theorem d_L_law_734 : decode code 734 = .ok (.iconst 4, 1) := by decide +kernel
theorem d_L_law_735 : decode code 735 = .ok (.iadd, 1) := by decide +kernel
theorem d_L_law_736 : decode code 736 = .ok (.iaload, 1) := by decide +kernel
theorem d_L_law_737 : decode code 737 = .ok (.i2l, 1) := by decide +kernel
theorem d_L_law_738 : decode code 738 = .ok (.ldc2_w 18, 3) := by decide +kernel
theorem d_L_law_741 : decode code 741 = .ok (.land, 1) := by decide +kernel
theorem d_L_law_742 : decode code 742 = .ok (.lor, 1) := by decide +kernel
theorem d_L_law_743 : decode code 743 = .ok (.aload_n 0, 1) := by decide +kernel
theorem d_L_law_744 : decode code 744 = .ok (.iload_n 3, 1) := by decide +kernel
theorem d_L_law_745 : decode code 745 = .ok (.iconst 5, 1) := by decide +kernel
theorem d_L_law_746 : decode code 746 = .ok (.iadd, 1) := by decide +kernel
theorem d_L_law_747 : decode code 747 = .ok (.iaload, 1) := by decide +kernel
theorem d_L_law_748 : decode code 748 = .ok (.invokevirtual 70, 3) := by decide +kernel
theorem d_L_law_751 : decode code 751 = .ok (.aload_n 2, 1) := by decide +kernel
theorem d_L_law_752 : decode code 752 = .ok (.aload_n 0, 1) := by decide +kernel
theorem d_L_law_753 : decode code 753 = .ok (.iload_n 3, 1) := by decide +kernel
theorem d_L_law_754 : decode code 754 = .ok (.iconst 1, 1) := by decide +kernel
theorem d_L_law_755 : decode code 755 = .ok (.iadd, 1) := by decide +kernel
theorem d_L_law_756 : decode code 756 = .ok (.iaload, 1) := by decide +kernel
theorem d_L_law_757 : decode code 757 = .ok (.aload_n 0, 1) := by decide +kernel
theorem d_L_law_758 : decode code 758 = .ok (.iload_n 3, 1) := by decide +kernel
theorem d_L_law_759 : decode code 759 = .ok (.iconst 2, 1) := by decide +kernel
theorem d_L_law_760 : decode code 760 = .ok (.iadd, 1) := by decide +kernel
theorem d_L_law_761 : decode code 761 = .ok (.iaload, 1) := by decide +kernel
theorem d_L_law_762 : decode code 762 = .ok (.aload_n 0, 1) := by decide +kernel
theorem d_L_law_763 : decode code 763 = .ok (.iload_n 3, 1) := by decide +kernel
theorem d_L_law_764 : decode code 764 = .ok (.iconst 3, 1) := by decide +kernel
theorem d_L_law_765 : decode code 765 = .ok (.iadd, 1) := by decide +kernel
theorem d_L_law_766 : decode code 766 = .ok (.iaload, 1) := by decide +kernel
theorem d_L_law_767 : decode code 767 = .ok (.i2l, 1) := by decide +kernel
theorem d_L_law_768 : decode code 768 = .ok (.bipush 32, 2) := by decide +kernel
theorem d_L_law_770 : decode code 770 = .ok (.lshl, 1) := by decide +kernel
theorem d_L_law_771 : decode code 771 = .ok (.aload_n 0, 1) := by decide +kernel
theorem d_L_law_772 : decode code 772 = .ok (.iload_n 3, 1) := by decide +kernel
theorem d_L_law_773 : decode code 773 = .ok (.iconst 4, 1) := by decide +kernel
theorem d_L_law_774 : decode code 774 = .ok (.iadd, 1) := by decide +kernel
theorem d_L_law_775 : decode code 775 = .ok (.iaload, 1) := by decide +kernel
theorem d_L_law_776 : decode code 776 = .ok (.i2l, 1) := by decide +kernel
theorem d_L_law_777 : decode code 777 = .ok (.ldc2_w 18, 3) := by decide +kernel
theorem d_L_law_780 : decode code 780 = .ok (.land, 1) := by decide +kernel
theorem d_L_law_781 : decode code 781 = .ok (.lor, 1) := by decide +kernel
theorem d_L_law_782 : decode code 782 = .ok (.aload_n 0, 1) := by decide +kernel
theorem d_L_law_783 : decode code 783 = .ok (.iload_n 3, 1) := by decide +kernel
theorem d_L_law_784 : decode code 784 = .ok (.iconst 5, 1) := by decide +kernel
theorem d_L_law_785 : decode code 785 = .ok (.iadd, 1) := by decide +kernel
theorem d_L_law_786 : decode code 786 = .ok (.iaload, 1) := by decide +kernel
theorem d_L_law_787 : decode code 787 = .ok (.invokevirtual 74, 3) := by decide +kernel
theorem d_L_law_790 : decode code 790 = .ok (.if_icmp .eq 28, 3) := by decide +kernel
theorem d_L_law_793 : decode code 793 = .ok (.iconst 0, 1) := by decide +kernel
theorem d_L_law_794 : decode code 794 = .ok (.ireturn, 1) := by decide +kernel
theorem d_L_law_795 : decode code 795 = .ok (.aload_n 1, 1) := by decide +kernel
theorem d_L_law_796 : decode code 796 = .ok (.aload_n 0, 1) := by decide +kernel
theorem d_L_law_797 : decode code 797 = .ok (.iload_n 3, 1) := by decide +kernel
theorem d_L_law_798 : decode code 798 = .ok (.iconst 1, 1) := by decide +kernel
theorem d_L_law_799 : decode code 799 = .ok (.iadd, 1) := by decide +kernel
