theorem d_TypeFinderModel_init_670 : decode b_TypeFinderModel_init 670 = .ok (.iastore, 1) := by decide +kernel
theorem d_TypeFinderModel_init_671 : decode b_TypeFinderModel_init 671 = .ok (.aload_n 0, 1) := by decide +kernel
theorem d_TypeFinderModel_init_672 : decode b_TypeFinderModel_init 672 = .ok (.getfield 69, 3) := by decide +kernel
theorem d_TypeFinderModel_init_675 : decode b_TypeFinderModel_init 675 = .ok (.bipush 80, 2) := by decide +kernel
theorem d_TypeFinderModel_init_677 : decode b_TypeFinderModel_init 677 = .ok (.iload_n 1, 1) := by decide +kernel
theorem d_TypeFinderModel_init_678 : decode b_TypeFinderModel_init 678 = .ok (.imul, 1) := by decide +kernel
theorem d_TypeFinderModel_init_679 : decode b_TypeFinderModel_init 679 = .ok (.bipush 10, 2) := by decide +kernel
theorem d_TypeFinderModel_init_681 : decode b_TypeFinderModel_init 681 = .ok (.iastore, 1) := by decide +kernel
theorem d_TypeFinderModel_init_682 : decode b_TypeFinderModel_init 682 = .ok (.iinc 1 1, 3) := by decide +kernel
theorem d_TypeFinderModel_init_685 : decode b_TypeFinderModel_init 685 = .ok (.goto (-26), 3) := by decide +kernel
theorem d_TypeFinderModel_init_688 : decode b_TypeFinderModel_init 688 = .ok (.iconst 2, 1) := by decide +kernel
theorem d_TypeFinderModel_init_689 : decode b_TypeFinderModel_init 689 = .ok (.istore_n 1, 1) := by decide +kernel
theorem d_TypeFinderModel_init_690 : decode b_TypeFinderModel_init 690 = .ok (.iload_n 1, 1) := by decide +kernel
theorem d_TypeFinderModel_init_691 : decode b_TypeFinderModel_init 691 = .ok (.iconst 4, 1) := by decide +kernel
theorem d_TypeFinderModel_init_692 : decode b_TypeFinderModel_init 692 = .ok (.if_icmp .ge 16, 3) := by decide +kernel
theorem d_TypeFinderModel_init_695 : decode b_TypeFinderModel_init 695 = .ok (.aload_n 0, 1) := by decide +kernel
theorem d_TypeFinderModel_init_696 : decode b_TypeFinderModel_init 696 = .ok (.getfield 60, 3) := by decide +kernel
theorem d_TypeFinderModel_init_699 : decode b_TypeFinderModel_init 699 = .ok (.iload_n 1, 1) := by decide +kernel
theorem d_TypeFinderModel_init_700 : decode b_TypeFinderModel_init 700 = .ok (.iconst 1, 1) := by decide +kernel
theorem d_TypeFinderModel_init_701 : decode b_TypeFinderModel_init 701 = .ok (.iastore, 1) := by decide +kernel
theorem d_TypeFinderModel_init_702 : decode b_TypeFinderModel_init 702 = .ok (.iinc 1 1, 3) := by decide +kernel
theorem d_TypeFinderModel_init_705 : decode b_TypeFinderModel_init 705 = .ok (.goto (-15), 3) := by decide +kernel
theorem d_TypeFinderModel_init_708 : decode b_TypeFinderModel_init 708 = .ok (.aload_n 0, 1) := by decide +kernel
theorem d_TypeFinderModel_init_709 : decode b_TypeFinderModel_init 709 = .ok (.getfield 66, 3) := by decide +kernel
theorem d_TypeFinderModel_init_712 : decode b_TypeFinderModel_init 712 = .ok (.iconst 2, 1) := by decide +kernel
theorem d_TypeFinderModel_init_713 : decode b_TypeFinderModel_init 713 = .ok (.iconst 2, 1) := by decide +kernel
theorem d_TypeFinderModel_init_714 : decode b_TypeFinderModel_init 714 = .ok (.iastore, 1) := by decide +kernel
theorem d_TypeFinderModel_init_715 : decode b_TypeFinderModel_init 715 = .ok (.aload_n 0, 1) := by decide +kernel
theorem d_TypeFinderModel_init_716 : decode b_TypeFinderModel_init 716 = .ok (.getfield 69, 3) := by decide +kernel
theorem d_TypeFinderModel_init_719 : decode b_TypeFinderModel_init 719 = .ok (.sipush 160, 3) := by decide +kernel
theorem d_TypeFinderModel_init_722 : decode b_TypeFinderModel_init 722 = .ok (.bipush 11, 2) := by decide +kernel
theorem d_TypeFinderModel_init_724 : decode b_TypeFinderModel_init 724 = .ok (.iastore, 1) := by decide +kernel
theorem d_TypeFinderModel_init_725 : decode b_TypeFinderModel_init 725 = .ok (.aload_n 0, 1) := by decide +kernel
theorem d_TypeFinderModel_init_726 : decode b_TypeFinderModel_init 726 = .ok (.getfield 69, 3) := by decide +kernel
theorem d_TypeFinderModel_init_729 : decode b_TypeFinderModel_init 729 = .ok (.sipush 161, 3) := by decide +kernel
theorem d_TypeFinderModel_init_732 : decode b_TypeFinderModel_init 732 = .ok (.bipush 100, 2) := by decide +kernel
theorem d_TypeFinderModel_init_734 : decode b_TypeFinderModel_init 734 = .ok (.iastore, 1) := by decide +kernel
theorem d_TypeFinderModel_init_735 : decode b_TypeFinderModel_init 735 = .ok (.aload_n 0, 1) := by decide +kernel
theorem d_TypeFinderModel_init_736 : decode b_TypeFinderModel_init 736 = .ok (.getfield 63, 3) := by decide +kernel
theorem d_TypeFinderModel_init_739 : decode b_TypeFinderModel_init 739 = .ok (.iconst 3, 1) := by decide +kernel
theorem d_TypeFinderModel_init_740 : decode b_TypeFinderModel_init 740 = .ok (.iconst 2, 1) := by decide +kernel
theorem d_TypeFinderModel_init_741 : decode b_TypeFinderModel_init 741 = .ok (.iastore, 1) := by decide +kernel
theorem d_TypeFinderModel_init_742 : decode b_TypeFinderModel_init 742 = .ok (.aload_n 0, 1) := by decide +kernel
theorem d_TypeFinderModel_init_743 : decode b_TypeFinderModel_init 743 = .ok (.getfield 66, 3) := by decide +kernel
theorem d_TypeFinderModel_init_746 : decode b_TypeFinderModel_init 746 = .ok (.iconst 3, 1) := by decide +kernel
theorem d_TypeFinderModel_init_747 : decode b_TypeFinderModel_init 747 = .ok (.bipush 7, 2) := by decide +kernel
theorem d_TypeFinderModel_init_749 : decode b_TypeFinderModel_init 749 = .ok (.iastore, 1) := by decide +kernel
theorem d_TypeFinderModel_init_750 : decode b_TypeFinderModel_init 750 = .ok (.iconst 0, 1) := by decide +kernel
theorem d_TypeFinderModel_init_751 : decode b_TypeFinderModel_init 751 = .ok (.istore_n 1, 1) := by decide +kernel
theorem d_TypeFinderModel_init_752 : decode b_TypeFinderModel_init 752 = .ok (.iload_n 1, 1) := by decide +kernel
theorem d_TypeFinderModel_init_753 : decode b_TypeFinderModel_init 753 = .ok (.bipush 7, 2) := by decide +kernel
theorem d_TypeFinderModel_init_755 : decode b_TypeFinderModel_init 755 = .ok (.if_icmp .ge 49, 3) := by decide +kernel
theorem d_TypeFinderModel_init_758 : decode b_TypeFinderModel_init 758 = .ok (.aload_n 0, 1) := by decide +kernel
theorem d_TypeFinderModel_init_759 : decode b_TypeFinderModel_init 759 = .ok (.getfield 69, 3) := by decide +kernel
theorem d_TypeFinderModel_init_762 : decode b_TypeFinderModel_init 762 = .ok (.sipush 240, 3) := by decide +kernel
theorem d_TypeFinderModel_init_765 : decode b_TypeFinderModel_init 765 = .ok (.iload_n 1, 1) := by decide +kernel
theorem d_TypeFinderModel_init_766 : decode b_TypeFinderModel_init 766 = .ok (.iadd, 1) := by decide +kernel
theorem d_TypeFinderModel_init_767 : decode b_TypeFinderModel_init 767 = .ok (.iload_n 1, 1) := by decide +kernel
theorem d_TypeFinderModel_init_768 : decode b_TypeFinderModel_init 768 = .ok (.ifCond .eq 8, 3) := by decide +kernel
theorem d_TypeFinderModel_init_771 : decode b_TypeFinderModel_init 771 = .ok (.iload_n 1, 1) := by decide +kernel
theorem d_TypeFinderModel_init_772 : decode b_TypeFinderModel_init 772 = .ok (.iconst 2, 1) := by decide +kernel
theorem d_TypeFinderModel_init_773 : decode b_TypeFinderModel_init 773 = .ok (.if_icmp .ne 7, 3) := by decide +kernel
theorem d_TypeFinderModel_init_776 : decode b_TypeFinderModel_init 776 = .ok (.iconst 2, 1) := by decide +kernel
theorem d_TypeFinderModel_init_777 : decode b_TypeFinderModel_init 777 = .ok (.goto 20, 3) := by decide +kernel
theorem d_TypeFinderModel_init_780 : decode b_TypeFinderModel_init 780 = .ok (.iload_n 1, 1) := by decide +kernel
theorem d_TypeFinderModel_init_781 : decode b_TypeFinderModel_init 781 = .ok (.iconst 3, 1) := by decide +kernel
theorem d_TypeFinderModel_init_782 : decode b_TypeFinderModel_init 782 = .ok (.if_icmp .eq 8, 3) := by decide +kernel
theorem d_TypeFinderModel_init_785 : decode b_TypeFinderModel_init 785 = .ok (.iload_n 1, 1) := by decide +kernel
theorem d_TypeFinderModel_init_786 : decode b_TypeFinderModel_init 786 = .ok (.iconst 5, 1) := by decide +kernel
theorem d_TypeFinderModel_init_787 : decode b_TypeFinderModel_init 787 = .ok (.if_icmp .ne 8, 3) := by decide +kernel
theorem d_TypeFinderModel_init_790 : decode b_TypeFinderModel_init 790 = .ok (.bipush 11, 2) := by decide +kernel
theorem d_TypeFinderModel_init_792 : decode b_TypeFinderModel_init 792 = .ok (.goto 5, 3) := by decide +kernel
theorem d_TypeFinderModel_init_795 : decode b_TypeFinderModel_init 795 = .ok (.bipush 100, 2) := by decide +kernel
theorem d_TypeFinderModel_init_797 : decode b_TypeFinderModel_init 797 = .ok (.iastore, 1) := by decide +kernel
theorem d_TypeFinderModel_init_798 : decode b_TypeFinderModel_init 798 = .ok (.iinc 1 1, 3) := by decide +kernel
theorem d_TypeFinderModel_init_801 : decode b_TypeFinderModel_init 801 = .ok (.goto (-49), 3) := by decide +kernel
theorem d_TypeFinderModel_init_804 : decode b_TypeFinderModel_init 804 = .ok (.return_, 1) := by decide +kernel
theorem d_TypeFinderModel_peek_0 : decode b_TypeFinderModel_peek 0 = .ok (.aload_n 0, 1) := by decide +kernel
theorem d_TypeFinderModel_peek_1 : decode b_TypeFinderModel_peek 1 = .ok (.getfield 13, 3) := by decide +kernel
theorem d_TypeFinderModel_peek_4 : decode b_TypeFinderModel_peek 4 = .ok (.aload_n 0, 1) := by decide +kernel
theorem d_TypeFinderModel_peek_5 : decode b_TypeFinderModel_peek 5 = .ok (.getfield 256, 3) := by decide +kernel
theorem d_TypeFinderModel_peek_8 : decode b_TypeFinderModel_peek 8 = .ok (.iaload, 1) := by decide +kernel
theorem d_TypeFinderModel_peek_9 : decode b_TypeFinderModel_peek 9 = .ok (.ireturn, 1) := by decide +kernel
theorem d_TypeFinderModel_put_0 : decode b_TypeFinderModel_put 0 = .ok (.aload_n 0, 1) := by decide +kernel
theorem d_TypeFinderModel_put_1 : decode b_TypeFinderModel_put 1 = .ok (.getfield 13, 3) := by decide +kernel
theorem d_TypeFinderModel_put_4 : decode b_TypeFinderModel_put 4 = .ok (.aload_n 0, 1) := by decide +kernel
theorem d_TypeFinderModel_put_5 : decode b_TypeFinderModel_put 5 = .ok (.getfield 196, 3) := by decide +kernel
theorem d_TypeFinderModel_put_8 : decode b_TypeFinderModel_put 8 = .ok (.iload_n 1, 1) := by decide +kernel
theorem d_TypeFinderModel_put_9 : decode b_TypeFinderModel_put 9 = .ok (.iastore, 1) := by decide +kernel
theorem d_TypeFinderModel_put_10 : decode b_TypeFinderModel_put 10 = .ok (.aload_n 0, 1) := by decide +kernel
theorem d_TypeFinderModel_put_11 : decode b_TypeFinderModel_put 11 = .ok (.getfield 16, 3) := by decide +kernel
theorem d_TypeFinderModel_put_14 : decode b_TypeFinderModel_put 14 = .ok (.aload_n 0, 1) := by decide +kernel
theorem d_TypeFinderModel_put_15 : decode b_TypeFinderModel_put 15 = .ok (.getfield 196, 3) := by decide +kernel
theorem d_TypeFinderModel_put_18 : decode b_TypeFinderModel_put 18 = .ok (.iload_n 2, 1) := by decide +kernel
theorem d_TypeFinderModel_put_19 : decode b_TypeFinderModel_put 19 = .ok (.iastore, 1) := by decide +kernel
theorem d_TypeFinderModel_put_20 : decode b_TypeFinderModel_put 20 = .ok (.aload_n 0, 1) := by decide +kernel
theorem d_TypeFinderModel_put_21 : decode b_TypeFinderModel_put 21 = .ok (.dup, 1) := by decide +kernel
theorem d_TypeFinderModel_put_22 : decode b_TypeFinderModel_put 22 = .ok (.getfield 196, 3) := by decide +kernel
theorem d_TypeFinderModel_put_25 : decode b_TypeFinderModel_put 25 = .ok (.iconst 1, 1) := by decide +kernel
theorem d_TypeFinderModel_put_26 : decode b_TypeFinderModel_put 26 = .ok (.iadd, 1) := by decide +kernel
theorem d_TypeFinderModel_put_27 : decode b_TypeFinderModel_put 27 = .ok (.putfield 196, 3) := by decide +kernel
theorem d_TypeFinderModel_put_30 : decode b_TypeFinderModel_put 30 = .ok (.return_, 1) := by decide +kernel
theorem d_TypeFinderModel_refuse_0 : decode b_TypeFinderModel_refuse 0 = .ok (.aload_n 0, 1) := by decide +kernel
theorem d_TypeFinderModel_refuse_1 : decode b_TypeFinderModel_refuse 1 = .ok (.dup, 1) := by decide +kernel
theorem d_TypeFinderModel_refuse_2 : decode b_TypeFinderModel_refuse 2 = .ok (.getfield 495, 3) := by decide +kernel
theorem d_TypeFinderModel_refuse_5 : decode b_TypeFinderModel_refuse 5 = .ok (.iconst 1, 1) := by decide +kernel
theorem d_TypeFinderModel_refuse_6 : decode b_TypeFinderModel_refuse 6 = .ok (.iadd, 1) := by decide +kernel
theorem d_TypeFinderModel_refuse_7 : decode b_TypeFinderModel_refuse 7 = .ok (.putfield 495, 3) := by decide +kernel
theorem d_TypeFinderModel_refuse_10 : decode b_TypeFinderModel_refuse 10 = .ok (.aload_n 0, 1) := by decide +kernel
theorem d_TypeFinderModel_refuse_11 : decode b_TypeFinderModel_refuse 11 = .ok (.iload_n 1, 1) := by decide +kernel
theorem d_TypeFinderModel_refuse_12 : decode b_TypeFinderModel_refuse 12 = .ok (.putfield 190, 3) := by decide +kernel
theorem d_TypeFinderModel_refuse_15 : decode b_TypeFinderModel_refuse 15 = .ok (.iconst 0, 1) := by decide +kernel
theorem d_TypeFinderModel_refuse_16 : decode b_TypeFinderModel_refuse 16 = .ok (.ireturn, 1) := by decide +kernel
theorem d_TypeFinderModel_setName_0 : decode b_TypeFinderModel_setName 0 = .ok (.aload_n 0, 1) := by decide +kernel
theorem d_TypeFinderModel_setName_1 : decode b_TypeFinderModel_setName 1 = .ok (.getfield 30, 3) := by decide +kernel
theorem d_TypeFinderModel_setName_4 : decode b_TypeFinderModel_setName 4 = .ok (.iload_n 1, 1) := by decide +kernel
theorem d_TypeFinderModel_setName_5 : decode b_TypeFinderModel_setName 5 = .ok (.iconst (-1), 1) := by decide +kernel
theorem d_TypeFinderModel_setName_6 : decode b_TypeFinderModel_setName 6 = .ok (.iload_n 1, 1) := by decide +kernel
theorem d_TypeFinderModel_setName_7 : decode b_TypeFinderModel_setName 7 = .ok (.isub, 1) := by decide +kernel
theorem d_TypeFinderModel_setName_8 : decode b_TypeFinderModel_setName 8 = .ok (.iastore, 1) := by decide +kernel
theorem d_TypeFinderModel_setName_9 : decode b_TypeFinderModel_setName 9 = .ok (.aload_n 0, 1) := by decide +kernel
theorem d_TypeFinderModel_setName_10 : decode b_TypeFinderModel_setName 10 = .ok (.getfield 33, 3) := by decide +kernel
theorem d_TypeFinderModel_setName_13 : decode b_TypeFinderModel_setName 13 = .ok (.iload_n 1, 1) := by decide +kernel
theorem d_TypeFinderModel_setName_14 : decode b_TypeFinderModel_setName 14 = .ok (.iconst 5, 1) := by decide +kernel
theorem d_TypeFinderModel_setName_15 : decode b_TypeFinderModel_setName 15 = .ok (.iastore, 1) := by decide +kernel
theorem d_TypeFinderModel_setName_16 : decode b_TypeFinderModel_setName 16 = .ok (.aload_n 0, 1) := by decide +kernel
theorem d_TypeFinderModel_setName_17 : decode b_TypeFinderModel_setName 17 = .ok (.getfield 36, 3) := by decide +kernel
theorem d_TypeFinderModel_setName_20 : decode b_TypeFinderModel_setName 20 = .ok (.bipush 24, 2) := by decide +kernel
theorem d_TypeFinderModel_setName_22 : decode b_TypeFinderModel_setName 22 = .ok (.iload_n 1, 1) := by decide +kernel
theorem d_TypeFinderModel_setName_23 : decode b_TypeFinderModel_setName 23 = .ok (.imul, 1) := by decide +kernel
theorem d_TypeFinderModel_setName_24 : decode b_TypeFinderModel_setName 24 = .ok (.iload_n 2, 1) := by decide +kernel
theorem d_TypeFinderModel_setName_25 : decode b_TypeFinderModel_setName 25 = .ok (.iastore, 1) := by decide +kernel
theorem d_TypeFinderModel_setName_26 : decode b_TypeFinderModel_setName 26 = .ok (.aload_n 0, 1) := by decide +kernel
theorem d_TypeFinderModel_setName_27 : decode b_TypeFinderModel_setName 27 = .ok (.getfield 36, 3) := by decide +kernel
theorem d_TypeFinderModel_setName_30 : decode b_TypeFinderModel_setName 30 = .ok (.bipush 24, 2) := by decide +kernel
theorem d_TypeFinderModel_setName_32 : decode b_TypeFinderModel_setName 32 = .ok (.iload_n 1, 1) := by decide +kernel
theorem d_TypeFinderModel_setName_33 : decode b_TypeFinderModel_setName 33 = .ok (.imul, 1) := by decide +kernel
theorem d_TypeFinderModel_setName_34 : decode b_TypeFinderModel_setName 34 = .ok (.iconst 1, 1) := by decide +kernel
theorem d_TypeFinderModel_setName_35 : decode b_TypeFinderModel_setName 35 = .ok (.iadd, 1) := by decide +kernel
theorem d_TypeFinderModel_setName_36 : decode b_TypeFinderModel_setName 36 = .ok (.iload_n 3, 1) := by decide +kernel
theorem d_TypeFinderModel_setName_37 : decode b_TypeFinderModel_setName 37 = .ok (.iastore, 1) := by decide +kernel
theorem d_TypeFinderModel_setName_38 : decode b_TypeFinderModel_setName 38 = .ok (.aload_n 0, 1) := by decide +kernel
theorem d_TypeFinderModel_setName_39 : decode b_TypeFinderModel_setName 39 = .ok (.getfield 36, 3) := by decide +kernel
theorem d_TypeFinderModel_setName_42 : decode b_TypeFinderModel_setName 42 = .ok (.bipush 24, 2) := by decide +kernel
theorem d_TypeFinderModel_setName_44 : decode b_TypeFinderModel_setName 44 = .ok (.iload_n 1, 1) := by decide +kernel
theorem d_TypeFinderModel_setName_45 : decode b_TypeFinderModel_setName 45 = .ok (.imul, 1) := by decide +kernel
theorem d_TypeFinderModel_setName_46 : decode b_TypeFinderModel_setName 46 = .ok (.iconst 2, 1) := by decide +kernel
theorem d_TypeFinderModel_setName_47 : decode b_TypeFinderModel_setName 47 = .ok (.iadd, 1) := by decide +kernel
theorem d_TypeFinderModel_setName_48 : decode b_TypeFinderModel_setName 48 = .ok (.iload 4, 2) := by decide +kernel
theorem d_TypeFinderModel_setName_50 : decode b_TypeFinderModel_setName 50 = .ok (.iastore, 1) := by decide +kernel
