theorem dL_adders_533 : decode cL_adders 533 = .ok (.aload_n 0, 1) := by decide +kernel
theorem dL_adders_534 : decode cL_adders 534 = .ok (.iconst 0, 1) := by decide +kernel
theorem dL_adders_535 : decode cL_adders 535 = .ok (.iconst 0, 1) := by decide +kernel
theorem dL_adders_536 : decode cL_adders 536 = .ok (.iconst 0, 1) := by decide +kernel
theorem dL_adders_537 : decode cL_adders 537 = .ok (.invokestatic 102, 3) := by decide +kernel
theorem dL_adders_540 : decode cL_adders 540 = .ok (.ifCond .eq 263, 3) := by decide +kernel
theorem dL_adders_543 : decode cL_adders 543 = .ok (.aload_n 0, 1) := by decide +kernel
theorem dL_adders_544 : decode cL_adders 544 = .ok (.iconst 1, 1) := by decide +kernel
theorem dL_adders_545 : decode cL_adders 545 = .ok (.iconst 1, 1) := by decide +kernel
theorem dL_adders_546 : decode cL_adders 546 = .ok (.iconst 2, 1) := by decide +kernel
theorem dL_adders_547 : decode cL_adders 547 = .ok (.invokevirtual 21, 3) := by decide +kernel
theorem dL_adders_550 : decode cL_adders 550 = .ok (.bipush 12, 2) := by decide +kernel
theorem dL_adders_552 : decode cL_adders 552 = .ok (.if_icmp .ne 251, 3) := by decide +kernel
theorem dL_adders_555 : decode cL_adders 555 = .ok (.aload_n 0, 1) := by decide +kernel
theorem dL_adders_556 : decode cL_adders 556 = .ok (.iconst 1, 1) := by decide +kernel
theorem dL_adders_557 : decode cL_adders 557 = .ok (.bipush 12, 2) := by decide +kernel
theorem dL_adders_559 : decode cL_adders 559 = .ok (.iconst 4, 1) := by decide +kernel
theorem dL_adders_560 : decode cL_adders 560 = .ok (.iconst 3, 1) := by decide +kernel
theorem dL_adders_561 : decode cL_adders 561 = .ok (.bipush 8, 2) := by decide +kernel
theorem dL_adders_563 : decode cL_adders 563 = .ok (.iconst 3, 1) := by decide +kernel
theorem dL_adders_564 : decode cL_adders 564 = .ok (.iconst 1, 1) := by decide +kernel
theorem dL_adders_565 : decode cL_adders 565 = .ok (.invokestatic 97, 3) := by decide +kernel
theorem dL_adders_568 : decode cL_adders 568 = .ok (.ifCond .eq 235, 3) := by decide +kernel
theorem dL_adders_571 : decode cL_adders 571 = .ok (.aload_n 0, 1) := by decide +kernel
theorem dL_adders_572 : decode cL_adders 572 = .ok (.iconst 1, 1) := by decide +kernel
theorem dL_adders_573 : decode cL_adders 573 = .ok (.bipush 9, 2) := by decide +kernel
theorem dL_adders_575 : decode cL_adders 575 = .ok (.bipush 8, 2) := by decide +kernel
theorem dL_adders_577 : decode cL_adders 577 = .ok (.bipush 6, 2) := by decide +kernel
theorem dL_adders_579 : decode cL_adders 579 = .ok (.iconst 1, 1) := by decide +kernel
theorem dL_adders_580 : decode cL_adders 580 = .ok (.iconst (-1), 1) := by decide +kernel
theorem dL_adders_581 : decode cL_adders 581 = .ok (.invokestatic 105, 3) := by decide +kernel
theorem dL_adders_584 : decode cL_adders 584 = .ok (.ifCond .eq 219, 3) := by decide +kernel
theorem dL_adders_587 : decode cL_adders 587 = .ok (.aload_n 0, 1) := by decide +kernel
theorem dL_adders_588 : decode cL_adders 588 = .ok (.iconst 1, 1) := by decide +kernel
theorem dL_adders_589 : decode cL_adders 589 = .ok (.bipush 11, 2) := by decide +kernel
theorem dL_adders_591 : decode cL_adders 591 = .ok (.invokevirtual 49, 3) := by decide +kernel
theorem dL_adders_594 : decode cL_adders 594 = .ok (.iconst 2, 1) := by decide +kernel
theorem dL_adders_595 : decode cL_adders 595 = .ok (.if_icmp .ne 208, 3) := by decide +kernel
theorem dL_adders_598 : decode cL_adders 598 = .ok (.aload_n 0, 1) := by decide +kernel
theorem dL_adders_599 : decode cL_adders 599 = .ok (.iconst 0, 1) := by decide +kernel
theorem dL_adders_600 : decode cL_adders 600 = .ok (.iconst 1, 1) := by decide +kernel
theorem dL_adders_601 : decode cL_adders 601 = .ok (.invokevirtual 67, 3) := by decide +kernel
theorem dL_adders_604 : decode cL_adders 604 = .ok (.iconst (-1), 1) := by decide +kernel
theorem dL_adders_605 : decode cL_adders 605 = .ok (.if_icmp .ne 198, 3) := by decide +kernel
theorem dL_adders_608 : decode cL_adders 608 = .ok (.aload_n 0, 1) := by decide +kernel
theorem dL_adders_609 : decode cL_adders 609 = .ok (.iconst 1, 1) := by decide +kernel
theorem dL_adders_610 : decode cL_adders 610 = .ok (.iconst 0, 1) := by decide +kernel
theorem dL_adders_611 : decode cL_adders 611 = .ok (.invokevirtual 67, 3) := by decide +kernel
theorem dL_adders_614 : decode cL_adders 614 = .ok (.iconst (-1), 1) := by decide +kernel
theorem dL_adders_615 : decode cL_adders 615 = .ok (.if_icmp .ne 188, 3) := by decide +kernel
theorem dL_adders_618 : decode cL_adders 618 = .ok (.aload_n 0, 1) := by decide +kernel
theorem dL_adders_619 : decode cL_adders 619 = .ok (.iconst 1, 1) := by decide +kernel
theorem dL_adders_620 : decode cL_adders 620 = .ok (.bipush 8, 2) := by decide +kernel
theorem dL_adders_622 : decode cL_adders 622 = .ok (.iconst 1, 1) := by decide +kernel
theorem dL_adders_623 : decode cL_adders 623 = .ok (.invokevirtual 34, 3) := by decide +kernel
theorem dL_adders_626 : decode cL_adders 626 = .ok (.iconst (-1), 1) := by decide +kernel
theorem dL_adders_627 : decode cL_adders 627 = .ok (.if_icmp .ne 176, 3) := by decide +kernel
theorem dL_adders_630 : decode cL_adders 630 = .ok (.aload_n 0, 1) := by decide +kernel
theorem dL_adders_631 : decode cL_adders 631 = .ok (.iconst 0, 1) := by decide +kernel
theorem dL_adders_632 : decode cL_adders 632 = .ok (.iconst 1, 1) := by decide +kernel
theorem dL_adders_633 : decode cL_adders 633 = .ok (.invokevirtual 67, 3) := by decide +kernel
theorem dL_adders_636 : decode cL_adders 636 = .ok (.ifCond .ne 167, 3) := by decide +kernel
theorem dL_adders_639 : decode cL_adders 639 = .ok (.aload_n 0, 1) := by decide +kernel
theorem dL_adders_640 : decode cL_adders 640 = .ok (.iconst 1, 1) := by decide +kernel
theorem dL_adders_641 : decode cL_adders 641 = .ok (.invokevirtual 28, 3) := by decide +kernel
theorem dL_adders_644 : decode cL_adders 644 = .ok (.bipush 12, 2) := by decide +kernel
theorem dL_adders_646 : decode cL_adders 646 = .ok (.if_icmp .ne 157, 3) := by decide +kernel
theorem dL_adders_649 : decode cL_adders 649 = .ok (.aload_n 0, 1) := by decide +kernel
theorem dL_adders_650 : decode cL_adders 650 = .ok (.iconst 1, 1) := by decide +kernel
theorem dL_adders_651 : decode cL_adders 651 = .ok (.iconst 1, 1) := by decide +kernel
theorem dL_adders_652 : decode cL_adders 652 = .ok (.iconst 4, 1) := by decide +kernel
theorem dL_adders_653 : decode cL_adders 653 = .ok (.invokevirtual 21, 3) := by decide +kernel
theorem dL_adders_656 : decode cL_adders 656 = .ok (.bipush 31, 2) := by decide +kernel
theorem dL_adders_658 : decode cL_adders 658 = .ok (.if_icmp .ne 145, 3) := by decide +kernel
theorem dL_adders_661 : decode cL_adders 661 = .ok (.aload_n 0, 1) := by decide +kernel
theorem dL_adders_662 : decode cL_adders 662 = .ok (.iconst 2, 1) := by decide +kernel
theorem dL_adders_663 : decode cL_adders 663 = .ok (.iconst 2, 1) := by decide +kernel
theorem dL_adders_664 : decode cL_adders 664 = .ok (.iconst 4, 1) := by decide +kernel
theorem dL_adders_665 : decode cL_adders 665 = .ok (.invokevirtual 21, 3) := by decide +kernel
theorem dL_adders_668 : decode cL_adders 668 = .ok (.bipush 34, 2) := by decide +kernel
theorem dL_adders_670 : decode cL_adders 670 = .ok (.if_icmp .ne 133, 3) := by decide +kernel
theorem dL_adders_673 : decode cL_adders 673 = .ok (.aload_n 0, 1) := by decide +kernel
theorem dL_adders_674 : decode cL_adders 674 = .ok (.iconst 1, 1) := by decide +kernel
theorem dL_adders_675 : decode cL_adders 675 = .ok (.bipush 31, 2) := by decide +kernel
theorem dL_adders_677 : decode cL_adders 677 = .ok (.bipush 8, 2) := by decide +kernel
theorem dL_adders_679 : decode cL_adders 679 = .ok (.iconst 5, 1) := by decide +kernel
theorem dL_adders_680 : decode cL_adders 680 = .ok (.bipush 23, 2) := by decide +kernel
theorem dL_adders_682 : decode cL_adders 682 = .ok (.bipush 6, 2) := by decide +kernel
theorem dL_adders_684 : decode cL_adders 684 = .ok (.iconst 3, 1) := by decide +kernel
theorem dL_adders_685 : decode cL_adders 685 = .ok (.invokestatic 97, 3) := by decide +kernel
theorem dL_adders_688 : decode cL_adders 688 = .ok (.ifCond .eq 115, 3) := by decide +kernel
theorem dL_adders_691 : decode cL_adders 691 = .ok (.aload_n 0, 1) := by decide +kernel
theorem dL_adders_692 : decode cL_adders 692 = .ok (.iconst 2, 1) := by decide +kernel
theorem dL_adders_693 : decode cL_adders 693 = .ok (.bipush 34, 2) := by decide +kernel
theorem dL_adders_695 : decode cL_adders 695 = .ok (.bipush 8, 2) := by decide +kernel
theorem dL_adders_697 : decode cL_adders 697 = .ok (.iconst 5, 1) := by decide +kernel
theorem dL_adders_698 : decode cL_adders 698 = .ok (.bipush 26, 2) := by decide +kernel
theorem dL_adders_700 : decode cL_adders 700 = .ok (.iconst 5, 1) := by decide +kernel
theorem dL_adders_701 : decode cL_adders 701 = .ok (.iconst 3, 1) := by decide +kernel
theorem dL_adders_702 : decode cL_adders 702 = .ok (.invokestatic 97, 3) := by decide +kernel
theorem dL_adders_705 : decode cL_adders 705 = .ok (.ifCond .eq 98, 3) := by decide +kernel
theorem dL_adders_708 : decode cL_adders 708 = .ok (.aload_n 0, 1) := by decide +kernel
theorem dL_adders_709 : decode cL_adders 709 = .ok (.iconst 1, 1) := by decide +kernel
theorem dL_adders_710 : decode cL_adders 710 = .ok (.bipush 121, 2) := by decide +kernel
theorem dL_adders_712 : decode cL_adders 712 = .ok (.bipush 16, 2) := by decide +kernel
theorem dL_adders_714 : decode cL_adders 714 = .ok (.invokestatic 102, 3) := by decide +kernel
theorem dL_adders_717 : decode cL_adders 717 = .ok (.ifCond .eq 86, 3) := by decide +kernel
theorem dL_adders_720 : decode cL_adders 720 = .ok (.aload_n 0, 1) := by decide +kernel
theorem dL_adders_721 : decode cL_adders 721 = .ok (.iconst 2, 1) := by decide +kernel
theorem dL_adders_722 : decode cL_adders 722 = .ok (.bipush 121, 2) := by decide +kernel
theorem dL_adders_724 : decode cL_adders 724 = .ok (.bipush 16, 2) := by decide +kernel
theorem dL_adders_726 : decode cL_adders 726 = .ok (.invokestatic 102, 3) := by decide +kernel
theorem dL_adders_729 : decode cL_adders 729 = .ok (.ifCond .eq 74, 3) := by decide +kernel
theorem dL_adders_732 : decode cL_adders 732 = .ok (.aload_n 0, 1) := by decide +kernel
theorem dL_adders_733 : decode cL_adders 733 = .ok (.iconst 1, 1) := by decide +kernel
theorem dL_adders_734 : decode cL_adders 734 = .ok (.sipush 255, 3) := by decide +kernel
theorem dL_adders_737 : decode cL_adders 737 = .ok (.bipush 30, 2) := by decide +kernel
theorem dL_adders_739 : decode cL_adders 739 = .ok (.invokestatic 102, 3) := by decide +kernel
theorem dL_adders_742 : decode cL_adders 742 = .ok (.ifCond .eq 61, 3) := by decide +kernel
theorem dL_adders_745 : decode cL_adders 745 = .ok (.aload_n 0, 1) := by decide +kernel
theorem dL_adders_746 : decode cL_adders 746 = .ok (.iconst 1, 1) := by decide +kernel
theorem dL_adders_747 : decode cL_adders 747 = .ok (.iconst 2, 1) := by decide +kernel
theorem dL_adders_748 : decode cL_adders 748 = .ok (.invokevirtual 67, 3) := by decide +kernel
theorem dL_adders_751 : decode cL_adders 751 = .ok (.iconst (-1), 1) := by decide +kernel
theorem dL_adders_752 : decode cL_adders 752 = .ok (.if_icmp .ne 51, 3) := by decide +kernel
theorem dL_adders_755 : decode cL_adders 755 = .ok (.aload_n 0, 1) := by decide +kernel
theorem dL_adders_756 : decode cL_adders 756 = .ok (.bipush 18, 2) := by decide +kernel
theorem dL_adders_758 : decode cL_adders 758 = .ok (.iconst 0, 1) := by decide +kernel
theorem dL_adders_759 : decode cL_adders 759 = .ok (.iconst 1, 1) := by decide +kernel
theorem dL_adders_760 : decode cL_adders 760 = .ok (.iconst 0, 1) := by decide +kernel
theorem dL_adders_761 : decode cL_adders 761 = .ok (.iconst 0, 1) := by decide +kernel
theorem dL_adders_762 : decode cL_adders 762 = .ok (.invokestatic 86, 3) := by decide +kernel
theorem dL_adders_765 : decode cL_adders 765 = .ok (.ldc 81, 2) := by decide +kernel
theorem dL_adders_767 : decode cL_adders 767 = .ok (.if_icmp .ne 36, 3) := by decide +kernel
theorem dL_adders_770 : decode cL_adders 770 = .ok (.aload_n 0, 1) := by decide +kernel
theorem dL_adders_771 : decode cL_adders 771 = .ok (.iconst 1, 1) := by decide +kernel
theorem dL_adders_772 : decode cL_adders 772 = .ok (.iconst 0, 1) := by decide +kernel
theorem dL_adders_773 : decode cL_adders 773 = .ok (.iconst 0, 1) := by decide +kernel
theorem dL_adders_774 : decode cL_adders 774 = .ok (.iconst 0, 1) := by decide +kernel
theorem dL_adders_775 : decode cL_adders 775 = .ok (.iconst 0, 1) := by decide +kernel
theorem dL_adders_776 : decode cL_adders 776 = .ok (.iconst (-1), 1) := by decide +kernel
theorem dL_adders_777 : decode cL_adders 777 = .ok (.invokestatic 111, 3) := by decide +kernel
theorem dL_adders_780 : decode cL_adders 780 = .ok (.ifCond .eq 23, 3) := by decide +kernel
theorem dL_adders_783 : decode cL_adders 783 = .ok (.aload_n 0, 1) := by decide +kernel
theorem dL_adders_784 : decode cL_adders 784 = .ok (.iconst 2, 1) := by decide +kernel
theorem dL_adders_785 : decode cL_adders 785 = .ok (.iconst 0, 1) := by decide +kernel
theorem dL_adders_786 : decode cL_adders 786 = .ok (.iconst 0, 1) := by decide +kernel
theorem dL_adders_787 : decode cL_adders 787 = .ok (.iconst 0, 1) := by decide +kernel
theorem dL_adders_788 : decode cL_adders 788 = .ok (.iconst 0, 1) := by decide +kernel
theorem dL_adders_789 : decode cL_adders 789 = .ok (.iconst (-1), 1) := by decide +kernel
theorem dL_adders_790 : decode cL_adders 790 = .ok (.invokestatic 111, 3) := by decide +kernel
theorem dL_adders_793 : decode cL_adders 793 = .ok (.ifCond .eq 10, 3) := by decide +kernel
theorem dL_adders_796 : decode cL_adders 796 = .ok (.aload_n 0, 1) := by decide +kernel
theorem dL_adders_797 : decode cL_adders 797 = .ok (.invokestatic 93, 3) := by decide +kernel
theorem dL_adders_800 : decode cL_adders 800 = .ok (.ifCond .ne 5, 3) := by decide +kernel
theorem dL_adders_803 : decode cL_adders 803 = .ok (.iconst 0, 1) := by decide +kernel
theorem dL_adders_804 : decode cL_adders 804 = .ok (.ireturn, 1) := by decide +kernel
theorem dL_adders_805 : decode cL_adders 805 = .ok (.aload_n 0, 1) := by decide +kernel
theorem dL_adders_806 : decode cL_adders 806 = .ok (.iconst 3, 1) := by decide +kernel
theorem dL_adders_807 : decode cL_adders 807 = .ok (.iconst 0, 1) := by decide +kernel
theorem dL_adders_808 : decode cL_adders 808 = .ok (.iconst 4, 1) := by decide +kernel
theorem dL_adders_809 : decode cL_adders 809 = .ok (.invokevirtual 21, 3) := by decide +kernel
theorem dL_adders_812 : decode cL_adders 812 = .ok (.bipush 25, 2) := by decide +kernel
theorem dL_adders_814 : decode cL_adders 814 = .ok (.if_icmp .ne 165, 3) := by decide +kernel
theorem dL_adders_817 : decode cL_adders 817 = .ok (.aload_n 0, 1) := by decide +kernel
theorem dL_adders_818 : decode cL_adders 818 = .ok (.iconst 3, 1) := by decide +kernel
theorem dL_adders_819 : decode cL_adders 819 = .ok (.bipush 25, 2) := by decide +kernel
theorem dL_adders_821 : decode cL_adders 821 = .ok (.bipush 8, 2) := by decide +kernel
theorem dL_adders_823 : decode cL_adders 823 = .ok (.iconst 5, 1) := by decide +kernel
theorem dL_adders_824 : decode cL_adders 824 = .ok (.bipush 17, 2) := by decide +kernel
theorem dL_adders_826 : decode cL_adders 826 = .ok (.bipush 7, 2) := by decide +kernel
theorem dL_adders_828 : decode cL_adders 828 = .ok (.iconst 0, 1) := by decide +kernel
theorem dL_adders_829 : decode cL_adders 829 = .ok (.invokestatic 97, 3) := by decide +kernel
theorem dL_adders_832 : decode cL_adders 832 = .ok (.ifCond .eq 147, 3) := by decide +kernel
theorem dL_adders_835 : decode cL_adders 835 = .ok (.aload_n 0, 1) := by decide +kernel
theorem dL_adders_836 : decode cL_adders 836 = .ok (.iconst 3, 1) := by decide +kernel
theorem dL_adders_837 : decode cL_adders 837 = .ok (.iconst 2, 1) := by decide +kernel
theorem dL_adders_838 : decode cL_adders 838 = .ok (.invokevirtual 67, 3) := by decide +kernel
theorem dL_adders_841 : decode cL_adders 841 = .ok (.iconst (-1), 1) := by decide +kernel
theorem dL_adders_842 : decode cL_adders 842 = .ok (.if_icmp .ne 137, 3) := by decide +kernel
theorem dL_adders_845 : decode cL_adders 845 = .ok (.aload_n 0, 1) := by decide +kernel
theorem dL_adders_846 : decode cL_adders 846 = .ok (.iconst 3, 1) := by decide +kernel
theorem dL_adders_847 : decode cL_adders 847 = .ok (.invokevirtual 28, 3) := by decide +kernel
theorem dL_adders_850 : decode cL_adders 850 = .ok (.bipush 25, 2) := by decide +kernel
theorem dL_adders_852 : decode cL_adders 852 = .ok (.if_icmp .ne 127, 3) := by decide +kernel
theorem dL_adders_855 : decode cL_adders 855 = .ok (.aload_n 0, 1) := by decide +kernel
theorem dL_adders_856 : decode cL_adders 856 = .ok (.iconst 3, 1) := by decide +kernel
theorem dL_adders_857 : decode cL_adders 857 = .ok (.iconst 2, 1) := by decide +kernel
theorem dL_adders_858 : decode cL_adders 858 = .ok (.iconst 1, 1) := by decide +kernel
theorem dL_adders_859 : decode cL_adders 859 = .ok (.invokevirtual 21, 3) := by decide +kernel
theorem dL_adders_862 : decode cL_adders 862 = .ok (.iconst 4, 1) := by decide +kernel
theorem dL_adders_863 : decode cL_adders 863 = .ok (.if_icmp .ne 116, 3) := by decide +kernel
theorem dL_adders_866 : decode cL_adders 866 = .ok (.aload_n 0, 1) := by decide +kernel
theorem dL_adders_867 : decode cL_adders 867 = .ok (.iconst 3, 1) := by decide +kernel
theorem dL_adders_868 : decode cL_adders 868 = .ok (.iconst 4, 1) := by decide +kernel
theorem dL_adders_869 : decode cL_adders 869 = .ok (.iconst 2, 1) := by decide +kernel
theorem dL_adders_870 : decode cL_adders 870 = .ok (.iconst 2, 1) := by decide +kernel
theorem dL_adders_871 : decode cL_adders 871 = .ok (.iconst 2, 1) := by decide +kernel
theorem dL_adders_872 : decode cL_adders 872 = .ok (.iconst 1, 1) := by decide +kernel
theorem dL_adders_873 : decode cL_adders 873 = .ok (.iconst 0, 1) := by decide +kernel
theorem dL_adders_874 : decode cL_adders 874 = .ok (.invokestatic 97, 3) := by decide +kernel
theorem dL_adders_877 : decode cL_adders 877 = .ok (.ifCond .eq 102, 3) := by decide +kernel
theorem dL_adders_880 : decode cL_adders 880 = .ok (.aload_n 0, 1) := by decide +kernel
theorem dL_adders_881 : decode cL_adders 881 = .ok (.iconst 3, 1) := by decide +kernel
theorem dL_adders_882 : decode cL_adders 882 = .ok (.invokevirtual 28, 3) := by decide +kernel
theorem dL_adders_885 : decode cL_adders 885 = .ok (.iconst 4, 1) := by decide +kernel
theorem dL_adders_886 : decode cL_adders 886 = .ok (.if_icmp .ne 93, 3) := by decide +kernel
theorem dL_adders_889 : decode cL_adders 889 = .ok (.aload_n 0, 1) := by decide +kernel
theorem dL_adders_890 : decode cL_adders 890 = .ok (.iconst 3, 1) := by decide +kernel
theorem dL_adders_891 : decode cL_adders 891 = .ok (.iconst 0, 1) := by decide +kernel
theorem dL_adders_892 : decode cL_adders 892 = .ok (.iconst 1, 1) := by decide +kernel
theorem dL_adders_893 : decode cL_adders 893 = .ok (.invokevirtual 21, 3) := by decide +kernel
theorem dL_adders_896 : decode cL_adders 896 = .ok (.iconst 4, 1) := by decide +kernel
theorem dL_adders_897 : decode cL_adders 897 = .ok (.if_icmp .ne 82, 3) := by decide +kernel
theorem dL_adders_900 : decode cL_adders 900 = .ok (.aload_n 0, 1) := by decide +kernel
theorem dL_adders_901 : decode cL_adders 901 = .ok (.iconst 3, 1) := by decide +kernel
theorem dL_adders_902 : decode cL_adders 902 = .ok (.iconst 0, 1) := by decide +kernel
theorem dL_adders_903 : decode cL_adders 903 = .ok (.iconst 0, 1) := by decide +kernel
theorem dL_adders_904 : decode cL_adders 904 = .ok (.iconst 0, 1) := by decide +kernel
theorem dL_adders_905 : decode cL_adders 905 = .ok (.iconst 0, 1) := by decide +kernel
theorem dL_adders_906 : decode cL_adders 906 = .ok (.iconst (-1), 1) := by decide +kernel
theorem dL_adders_907 : decode cL_adders 907 = .ok (.invokestatic 111, 3) := by decide +kernel
theorem dL_adders_910 : decode cL_adders 910 = .ok (.ifCond .eq 69, 3) := by decide +kernel
theorem dL_adders_913 : decode cL_adders 913 = .ok (.aload_n 0, 1) := by decide +kernel
theorem dL_adders_914 : decode cL_adders 914 = .ok (.iconst 3, 1) := by decide +kernel
theorem dL_adders_915 : decode cL_adders 915 = .ok (.invokevirtual 28, 3) := by decide +kernel
theorem dL_adders_918 : decode cL_adders 918 = .ok (.iconst 4, 1) := by decide +kernel
theorem dL_adders_919 : decode cL_adders 919 = .ok (.if_icmp .ne 60, 3) := by decide +kernel
theorem dL_adders_922 : decode cL_adders 922 = .ok (.aload_n 0, 1) := by decide +kernel
theorem dL_adders_923 : decode cL_adders 923 = .ok (.iconst 3, 1) := by decide +kernel
