theorem dL_refuses_495 : decode cL_refuses 495 = .ok (.bipush 11, 2) := by decide +kernel
theorem dL_refuses_497 : decode cL_refuses 497 = .ok (.iload 5, 2) := by decide +kernel
theorem dL_refuses_499 : decode cL_refuses 499 = .ok (.bipush 99, 2) := by decide +kernel
theorem dL_refuses_501 : decode cL_refuses 501 = .ok (.iconst 0, 1) := by decide +kernel
theorem dL_refuses_502 : decode cL_refuses 502 = .ok (.iconst 0, 1) := by decide +kernel
theorem dL_refuses_503 : decode cL_refuses 503 = .ok (.invokestatic 86, 3) := by decide +kernel
theorem dL_refuses_506 : decode cL_refuses 506 = .ok (.ldc 75, 2) := by decide +kernel
theorem dL_refuses_508 : decode cL_refuses 508 = .ok (.if_icmp .ne 81, 3) := by decide +kernel
theorem dL_refuses_511 : decode cL_refuses 511 = .ok (.aload_n 0, 1) := by decide +kernel
theorem dL_refuses_512 : decode cL_refuses 512 = .ok (.bipush 11, 2) := by decide +kernel
theorem dL_refuses_514 : decode cL_refuses 514 = .ok (.iconst 0, 1) := by decide +kernel
theorem dL_refuses_515 : decode cL_refuses 515 = .ok (.iload_n 3, 1) := by decide +kernel
theorem dL_refuses_516 : decode cL_refuses 516 = .ok (.iconst 1, 1) := by decide +kernel
theorem dL_refuses_517 : decode cL_refuses 517 = .ok (.if_icmp .ne 8, 3) := by decide +kernel
theorem dL_refuses_520 : decode cL_refuses 520 = .ok (.bipush 7, 2) := by decide +kernel
theorem dL_refuses_522 : decode cL_refuses 522 = .ok (.goto 5, 3) := by decide +kernel
theorem dL_refuses_525 : decode cL_refuses 525 = .ok (.iload 4, 2) := by decide +kernel
theorem dL_refuses_527 : decode cL_refuses 527 = .ok (.iconst 0, 1) := by decide +kernel
theorem dL_refuses_528 : decode cL_refuses 528 = .ok (.iconst 0, 1) := by decide +kernel
theorem dL_refuses_529 : decode cL_refuses 529 = .ok (.invokestatic 86, 3) := by decide +kernel
theorem dL_refuses_532 : decode cL_refuses 532 = .ok (.ldc 78, 2) := by decide +kernel
theorem dL_refuses_534 : decode cL_refuses 534 = .ok (.if_icmp .ne 55, 3) := by decide +kernel
theorem dL_refuses_537 : decode cL_refuses 537 = .ok (.aload_n 0, 1) := by decide +kernel
theorem dL_refuses_538 : decode cL_refuses 538 = .ok (.bipush 12, 2) := by decide +kernel
theorem dL_refuses_540 : decode cL_refuses 540 = .ok (.iload 5, 2) := by decide +kernel
theorem dL_refuses_542 : decode cL_refuses 542 = .ok (.iconst 0, 1) := by decide +kernel
theorem dL_refuses_543 : decode cL_refuses 543 = .ok (.iconst 0, 1) := by decide +kernel
theorem dL_refuses_544 : decode cL_refuses 544 = .ok (.iconst 0, 1) := by decide +kernel
theorem dL_refuses_545 : decode cL_refuses 545 = .ok (.invokestatic 86, 3) := by decide +kernel
theorem dL_refuses_548 : decode cL_refuses 548 = .ok (.ldc 75, 2) := by decide +kernel
theorem dL_refuses_550 : decode cL_refuses 550 = .ok (.if_icmp .ne 39, 3) := by decide +kernel
theorem dL_refuses_553 : decode cL_refuses 553 = .ok (.aload_n 0, 1) := by decide +kernel
theorem dL_refuses_554 : decode cL_refuses 554 = .ok (.bipush 13, 2) := by decide +kernel
theorem dL_refuses_556 : decode cL_refuses 556 = .ok (.iload 5, 2) := by decide +kernel
theorem dL_refuses_558 : decode cL_refuses 558 = .ok (.iconst 0, 1) := by decide +kernel
theorem dL_refuses_559 : decode cL_refuses 559 = .ok (.iconst 0, 1) := by decide +kernel
theorem dL_refuses_560 : decode cL_refuses 560 = .ok (.iconst 0, 1) := by decide +kernel
theorem dL_refuses_561 : decode cL_refuses 561 = .ok (.invokestatic 86, 3) := by decide +kernel
theorem dL_refuses_564 : decode cL_refuses 564 = .ok (.ldc 75, 2) := by decide +kernel
theorem dL_refuses_566 : decode cL_refuses 566 = .ok (.if_icmp .ne 23, 3) := by decide +kernel
theorem dL_refuses_569 : decode cL_refuses 569 = .ok (.aload_n 0, 1) := by decide +kernel
theorem dL_refuses_570 : decode cL_refuses 570 = .ok (.bipush 13, 2) := by decide +kernel
theorem dL_refuses_572 : decode cL_refuses 572 = .ok (.iconst 0, 1) := by decide +kernel
theorem dL_refuses_573 : decode cL_refuses 573 = .ok (.iload 7, 2) := by decide +kernel
theorem dL_refuses_575 : decode cL_refuses 575 = .ok (.iconst 0, 1) := by decide +kernel
theorem dL_refuses_576 : decode cL_refuses 576 = .ok (.iconst 0, 1) := by decide +kernel
theorem dL_refuses_577 : decode cL_refuses 577 = .ok (.invokestatic 86, 3) := by decide +kernel
theorem dL_refuses_580 : decode cL_refuses 580 = .ok (.ldc 75, 2) := by decide +kernel
theorem dL_refuses_582 : decode cL_refuses 582 = .ok (.if_icmp .ne 7, 3) := by decide +kernel
theorem dL_refuses_585 : decode cL_refuses 585 = .ok (.iconst 1, 1) := by decide +kernel
theorem dL_refuses_586 : decode cL_refuses 586 = .ok (.goto 4, 3) := by decide +kernel
theorem dL_refuses_589 : decode cL_refuses 589 = .ok (.iconst 0, 1) := by decide +kernel
theorem dL_refuses_590 : decode cL_refuses 590 = .ok (.istore 8, 2) := by decide +kernel
theorem dL_refuses_592 : decode cL_refuses 592 = .ok (.bipush 14, 2) := by decide +kernel
theorem dL_refuses_594 : decode cL_refuses 594 = .ok (.istore 9, 2) := by decide +kernel
theorem dL_refuses_596 : decode cL_refuses 596 = .ok (.iload 9, 2) := by decide +kernel
theorem dL_refuses_598 : decode cL_refuses 598 = .ok (.bipush 16, 2) := by decide +kernel
theorem dL_refuses_600 : decode cL_refuses 600 = .ok (.if_icmp .ge 94, 3) := by decide +kernel
theorem dL_refuses_603 : decode cL_refuses 603 = .ok (.iload 8, 2) := by decide +kernel
theorem dL_refuses_605 : decode cL_refuses 605 = .ok (.ifCond .eq 89, 3) := by decide +kernel
theorem dL_refuses_608 : decode cL_refuses 608 = .ok (.aload_n 0, 1) := by decide +kernel
theorem dL_refuses_609 : decode cL_refuses 609 = .ok (.iload 9, 2) := by decide +kernel
theorem dL_refuses_611 : decode cL_refuses 611 = .ok (.iload 5, 2) := by decide +kernel
theorem dL_refuses_613 : decode cL_refuses 613 = .ok (.iconst (-1), 1) := by decide +kernel
theorem dL_refuses_614 : decode cL_refuses 614 = .ok (.iconst 0, 1) := by decide +kernel
theorem dL_refuses_615 : decode cL_refuses 615 = .ok (.iconst 0, 1) := by decide +kernel
theorem dL_refuses_616 : decode cL_refuses 616 = .ok (.invokestatic 86, 3) := by decide +kernel
theorem dL_refuses_619 : decode cL_refuses 619 = .ok (.ldc 75, 2) := by decide +kernel
theorem dL_refuses_621 : decode cL_refuses 621 = .ok (.if_icmp .ne 64, 3) := by decide +kernel
theorem dL_refuses_624 : decode cL_refuses 624 = .ok (.aload_n 0, 1) := by decide +kernel
theorem dL_refuses_625 : decode cL_refuses 625 = .ok (.iload 9, 2) := by decide +kernel
theorem dL_refuses_627 : decode cL_refuses 627 = .ok (.iconst 0, 1) := by decide +kernel
theorem dL_refuses_628 : decode cL_refuses 628 = .ok (.iload 6, 2) := by decide +kernel
theorem dL_refuses_630 : decode cL_refuses 630 = .ok (.iconst 0, 1) := by decide +kernel
theorem dL_refuses_631 : decode cL_refuses 631 = .ok (.iconst 0, 1) := by decide +kernel
theorem dL_refuses_632 : decode cL_refuses 632 = .ok (.invokestatic 86, 3) := by decide +kernel
theorem dL_refuses_635 : decode cL_refuses 635 = .ok (.ldc 78, 2) := by decide +kernel
theorem dL_refuses_637 : decode cL_refuses 637 = .ok (.if_icmp .ne 48, 3) := by decide +kernel
theorem dL_refuses_640 : decode cL_refuses 640 = .ok (.aload_n 0, 1) := by decide +kernel
theorem dL_refuses_641 : decode cL_refuses 641 = .ok (.iload 9, 2) := by decide +kernel
theorem dL_refuses_643 : decode cL_refuses 643 = .ok (.iconst 0, 1) := by decide +kernel
theorem dL_refuses_644 : decode cL_refuses 644 = .ok (.iconst 0, 1) := by decide +kernel
theorem dL_refuses_645 : decode cL_refuses 645 = .ok (.iload 6, 2) := by decide +kernel
theorem dL_refuses_647 : decode cL_refuses 647 = .ok (.iconst 0, 1) := by decide +kernel
theorem dL_refuses_648 : decode cL_refuses 648 = .ok (.invokestatic 86, 3) := by decide +kernel
theorem dL_refuses_651 : decode cL_refuses 651 = .ok (.ldc 78, 2) := by decide +kernel
theorem dL_refuses_653 : decode cL_refuses 653 = .ok (.if_icmp .ne 32, 3) := by decide +kernel
theorem dL_refuses_656 : decode cL_refuses 656 = .ok (.aload_n 0, 1) := by decide +kernel
theorem dL_refuses_657 : decode cL_refuses 657 = .ok (.iload 9, 2) := by decide +kernel
theorem dL_refuses_659 : decode cL_refuses 659 = .ok (.iconst 0, 1) := by decide +kernel
theorem dL_refuses_660 : decode cL_refuses 660 = .ok (.iconst 0, 1) := by decide +kernel
theorem dL_refuses_661 : decode cL_refuses 661 = .ok (.iconst 0, 1) := by decide +kernel
theorem dL_refuses_662 : decode cL_refuses 662 = .ok (.iload_n 3, 1) := by decide +kernel
theorem dL_refuses_663 : decode cL_refuses 663 = .ok (.iconst 1, 1) := by decide +kernel
theorem dL_refuses_664 : decode cL_refuses 664 = .ok (.if_icmp .ne 7, 3) := by decide +kernel
theorem dL_refuses_667 : decode cL_refuses 667 = .ok (.iconst 3, 1) := by decide +kernel
theorem dL_refuses_668 : decode cL_refuses 668 = .ok (.goto 5, 3) := by decide +kernel
theorem dL_refuses_671 : decode cL_refuses 671 = .ok (.iload 4, 2) := by decide +kernel
theorem dL_refuses_673 : decode cL_refuses 673 = .ok (.invokestatic 86, 3) := by decide +kernel
theorem dL_refuses_676 : decode cL_refuses 676 = .ok (.ldc 78, 2) := by decide +kernel
theorem dL_refuses_678 : decode cL_refuses 678 = .ok (.if_icmp .ne 7, 3) := by decide +kernel
theorem dL_refuses_681 : decode cL_refuses 681 = .ok (.iconst 1, 1) := by decide +kernel
theorem dL_refuses_682 : decode cL_refuses 682 = .ok (.goto 4, 3) := by decide +kernel
theorem dL_refuses_685 : decode cL_refuses 685 = .ok (.iconst 0, 1) := by decide +kernel
theorem dL_refuses_686 : decode cL_refuses 686 = .ok (.istore 8, 2) := by decide +kernel
theorem dL_refuses_688 : decode cL_refuses 688 = .ok (.iinc 9 1, 3) := by decide +kernel
theorem dL_refuses_691 : decode cL_refuses 691 = .ok (.goto (-95), 3) := by decide +kernel
theorem dL_refuses_694 : decode cL_refuses 694 = .ok (.iload 8, 2) := by decide +kernel
theorem dL_refuses_696 : decode cL_refuses 696 = .ok (.ifCond .eq 239, 3) := by decide +kernel
theorem dL_refuses_699 : decode cL_refuses 699 = .ok (.aload_n 0, 1) := by decide +kernel
theorem dL_refuses_700 : decode cL_refuses 700 = .ok (.bipush 16, 2) := by decide +kernel
theorem dL_refuses_702 : decode cL_refuses 702 = .ok (.iload 5, 2) := by decide +kernel
theorem dL_refuses_704 : decode cL_refuses 704 = .ok (.bipush 9, 2) := by decide +kernel
theorem dL_refuses_706 : decode cL_refuses 706 = .ok (.bipush 9, 2) := by decide +kernel
theorem dL_refuses_708 : decode cL_refuses 708 = .ok (.iconst 0, 1) := by decide +kernel
theorem dL_refuses_709 : decode cL_refuses 709 = .ok (.invokestatic 86, 3) := by decide +kernel
theorem dL_refuses_712 : decode cL_refuses 712 = .ok (.ldc 75, 2) := by decide +kernel
theorem dL_refuses_714 : decode cL_refuses 714 = .ok (.if_icmp .ne 221, 3) := by decide +kernel
theorem dL_refuses_717 : decode cL_refuses 717 = .ok (.aload_n 0, 1) := by decide +kernel
theorem dL_refuses_718 : decode cL_refuses 718 = .ok (.bipush 16, 2) := by decide +kernel
theorem dL_refuses_720 : decode cL_refuses 720 = .ok (.iconst 0, 1) := by decide +kernel
theorem dL_refuses_721 : decode cL_refuses 721 = .ok (.iload_n 3, 1) := by decide +kernel
theorem dL_refuses_722 : decode cL_refuses 722 = .ok (.iconst 1, 1) := by decide +kernel
theorem dL_refuses_723 : decode cL_refuses 723 = .ok (.if_icmp .ne 7, 3) := by decide +kernel
theorem dL_refuses_726 : decode cL_refuses 726 = .ok (.iconst 2, 1) := by decide +kernel
theorem dL_refuses_727 : decode cL_refuses 727 = .ok (.goto 5, 3) := by decide +kernel
theorem dL_refuses_730 : decode cL_refuses 730 = .ok (.iload 4, 2) := by decide +kernel
theorem dL_refuses_732 : decode cL_refuses 732 = .ok (.iconst 0, 1) := by decide +kernel
theorem dL_refuses_733 : decode cL_refuses 733 = .ok (.iconst 0, 1) := by decide +kernel
theorem dL_refuses_734 : decode cL_refuses 734 = .ok (.invokestatic 86, 3) := by decide +kernel
theorem dL_refuses_737 : decode cL_refuses 737 = .ok (.ldc 78, 2) := by decide +kernel
theorem dL_refuses_739 : decode cL_refuses 739 = .ok (.if_icmp .ne 196, 3) := by decide +kernel
theorem dL_refuses_742 : decode cL_refuses 742 = .ok (.aload_n 0, 1) := by decide +kernel
theorem dL_refuses_743 : decode cL_refuses 743 = .ok (.bipush 16, 2) := by decide +kernel
theorem dL_refuses_745 : decode cL_refuses 745 = .ok (.iconst 0, 1) := by decide +kernel
theorem dL_refuses_746 : decode cL_refuses 746 = .ok (.iconst 0, 1) := by decide +kernel
theorem dL_refuses_747 : decode cL_refuses 747 = .ok (.iload_n 3, 1) := by decide +kernel
theorem dL_refuses_748 : decode cL_refuses 748 = .ok (.iconst 1, 1) := by decide +kernel
theorem dL_refuses_749 : decode cL_refuses 749 = .ok (.if_icmp .ne 7, 3) := by decide +kernel
theorem dL_refuses_752 : decode cL_refuses 752 = .ok (.iconst 4, 1) := by decide +kernel
theorem dL_refuses_753 : decode cL_refuses 753 = .ok (.goto 5, 3) := by decide +kernel
theorem dL_refuses_756 : decode cL_refuses 756 = .ok (.iload 4, 2) := by decide +kernel
theorem dL_refuses_758 : decode cL_refuses 758 = .ok (.iconst 0, 1) := by decide +kernel
theorem dL_refuses_759 : decode cL_refuses 759 = .ok (.invokestatic 86, 3) := by decide +kernel
theorem dL_refuses_762 : decode cL_refuses 762 = .ok (.ldc 78, 2) := by decide +kernel
theorem dL_refuses_764 : decode cL_refuses 764 = .ok (.if_icmp .ne 171, 3) := by decide +kernel
theorem dL_refuses_767 : decode cL_refuses 767 = .ok (.aload_n 0, 1) := by decide +kernel
theorem dL_refuses_768 : decode cL_refuses 768 = .ok (.bipush 17, 2) := by decide +kernel
theorem dL_refuses_770 : decode cL_refuses 770 = .ok (.iload 5, 2) := by decide +kernel
theorem dL_refuses_772 : decode cL_refuses 772 = .ok (.iconst 0, 1) := by decide +kernel
theorem dL_refuses_773 : decode cL_refuses 773 = .ok (.iconst 0, 1) := by decide +kernel
theorem dL_refuses_774 : decode cL_refuses 774 = .ok (.iconst 0, 1) := by decide +kernel
theorem dL_refuses_775 : decode cL_refuses 775 = .ok (.invokestatic 86, 3) := by decide +kernel
theorem dL_refuses_778 : decode cL_refuses 778 = .ok (.ldc 75, 2) := by decide +kernel
theorem dL_refuses_780 : decode cL_refuses 780 = .ok (.if_icmp .ne 155, 3) := by decide +kernel
theorem dL_refuses_783 : decode cL_refuses 783 = .ok (.aload_n 0, 1) := by decide +kernel
theorem dL_refuses_784 : decode cL_refuses 784 = .ok (.bipush 17, 2) := by decide +kernel
theorem dL_refuses_786 : decode cL_refuses 786 = .ok (.iconst 0, 1) := by decide +kernel
theorem dL_refuses_787 : decode cL_refuses 787 = .ok (.iload_n 3, 1) := by decide +kernel
theorem dL_refuses_788 : decode cL_refuses 788 = .ok (.iconst 1, 1) := by decide +kernel
theorem dL_refuses_789 : decode cL_refuses 789 = .ok (.if_icmp .ne 7, 3) := by decide +kernel
theorem dL_refuses_792 : decode cL_refuses 792 = .ok (.iconst 2, 1) := by decide +kernel
theorem dL_refuses_793 : decode cL_refuses 793 = .ok (.goto 5, 3) := by decide +kernel
theorem dL_refuses_796 : decode cL_refuses 796 = .ok (.iload 4, 2) := by decide +kernel
theorem dL_refuses_798 : decode cL_refuses 798 = .ok (.iconst 5, 1) := by decide +kernel
theorem dL_refuses_799 : decode cL_refuses 799 = .ok (.iconst 0, 1) := by decide +kernel
theorem dL_refuses_800 : decode cL_refuses 800 = .ok (.invokestatic 86, 3) := by decide +kernel
theorem dL_refuses_803 : decode cL_refuses 803 = .ok (.ldc 78, 2) := by decide +kernel
theorem dL_refuses_805 : decode cL_refuses 805 = .ok (.if_icmp .ne 130, 3) := by decide +kernel
theorem dL_refuses_808 : decode cL_refuses 808 = .ok (.aload_n 0, 1) := by decide +kernel
theorem dL_refuses_809 : decode cL_refuses 809 = .ok (.bipush 17, 2) := by decide +kernel
theorem dL_refuses_811 : decode cL_refuses 811 = .ok (.iconst 0, 1) := by decide +kernel
theorem dL_refuses_812 : decode cL_refuses 812 = .ok (.iconst 0, 1) := by decide +kernel
theorem dL_refuses_813 : decode cL_refuses 813 = .ok (.iload_n 3, 1) := by decide +kernel
theorem dL_refuses_814 : decode cL_refuses 814 = .ok (.ifCond .ne 7, 3) := by decide +kernel
theorem dL_refuses_817 : decode cL_refuses 817 = .ok (.iconst 1, 1) := by decide +kernel
theorem dL_refuses_818 : decode cL_refuses 818 = .ok (.goto 15, 3) := by decide +kernel
theorem dL_refuses_821 : decode cL_refuses 821 = .ok (.iload_n 3, 1) := by decide +kernel
theorem dL_refuses_822 : decode cL_refuses 822 = .ok (.iconst 1, 1) := by decide +kernel
theorem dL_refuses_823 : decode cL_refuses 823 = .ok (.if_icmp .ne 8, 3) := by decide +kernel
theorem dL_refuses_826 : decode cL_refuses 826 = .ok (.bipush 100, 2) := by decide +kernel
theorem dL_refuses_828 : decode cL_refuses 828 = .ok (.goto 5, 3) := by decide +kernel
theorem dL_refuses_831 : decode cL_refuses 831 = .ok (.iload 4, 2) := by decide +kernel
theorem dL_refuses_833 : decode cL_refuses 833 = .ok (.iconst 0, 1) := by decide +kernel
theorem dL_refuses_834 : decode cL_refuses 834 = .ok (.invokestatic 86, 3) := by decide +kernel
theorem dL_refuses_837 : decode cL_refuses 837 = .ok (.ldc 78, 2) := by decide +kernel
theorem dL_refuses_839 : decode cL_refuses 839 = .ok (.if_icmp .ne 96, 3) := by decide +kernel
theorem dL_refuses_842 : decode cL_refuses 842 = .ok (.aload_n 0, 1) := by decide +kernel
theorem dL_refuses_843 : decode cL_refuses 843 = .ok (.bipush 18, 2) := by decide +kernel
theorem dL_refuses_845 : decode cL_refuses 845 = .ok (.iload 5, 2) := by decide +kernel
theorem dL_refuses_847 : decode cL_refuses 847 = .ok (.iconst 0, 1) := by decide +kernel
theorem dL_refuses_848 : decode cL_refuses 848 = .ok (.iconst 0, 1) := by decide +kernel
theorem dL_refuses_849 : decode cL_refuses 849 = .ok (.iconst 0, 1) := by decide +kernel
theorem dL_refuses_850 : decode cL_refuses 850 = .ok (.invokestatic 86, 3) := by decide +kernel
theorem dL_refuses_853 : decode cL_refuses 853 = .ok (.ldc 75, 2) := by decide +kernel
theorem dL_refuses_855 : decode cL_refuses 855 = .ok (.if_icmp .ne 80, 3) := by decide +kernel
theorem dL_refuses_858 : decode cL_refuses 858 = .ok (.aload_n 0, 1) := by decide +kernel
theorem dL_refuses_859 : decode cL_refuses 859 = .ok (.bipush 18, 2) := by decide +kernel
theorem dL_refuses_861 : decode cL_refuses 861 = .ok (.iconst 0, 1) := by decide +kernel
theorem dL_refuses_862 : decode cL_refuses 862 = .ok (.iload 5, 2) := by decide +kernel
theorem dL_refuses_864 : decode cL_refuses 864 = .ok (.iconst 0, 1) := by decide +kernel
theorem dL_refuses_865 : decode cL_refuses 865 = .ok (.iconst 0, 1) := by decide +kernel
theorem dL_refuses_866 : decode cL_refuses 866 = .ok (.invokestatic 86, 3) := by decide +kernel
theorem dL_refuses_869 : decode cL_refuses 869 = .ok (.ldc 75, 2) := by decide +kernel
theorem dL_refuses_871 : decode cL_refuses 871 = .ok (.if_icmp .ne 64, 3) := by decide +kernel
theorem dL_refuses_874 : decode cL_refuses 874 = .ok (.aload_n 0, 1) := by decide +kernel
theorem dL_refuses_875 : decode cL_refuses 875 = .ok (.bipush 19, 2) := by decide +kernel
theorem dL_refuses_877 : decode cL_refuses 877 = .ok (.iconst 0, 1) := by decide +kernel
theorem dL_refuses_878 : decode cL_refuses 878 = .ok (.iload_n 3, 1) := by decide +kernel
theorem dL_refuses_879 : decode cL_refuses 879 = .ok (.iconst 1, 1) := by decide +kernel
theorem dL_refuses_880 : decode cL_refuses 880 = .ok (.if_icmp .ne 8, 3) := by decide +kernel
theorem dL_refuses_883 : decode cL_refuses 883 = .ok (.bipush 16, 2) := by decide +kernel
theorem dL_refuses_885 : decode cL_refuses 885 = .ok (.goto 5, 3) := by decide +kernel
theorem dL_refuses_888 : decode cL_refuses 888 = .ok (.iload 4, 2) := by decide +kernel
theorem dL_refuses_890 : decode cL_refuses 890 = .ok (.iconst 0, 1) := by decide +kernel
theorem dL_refuses_891 : decode cL_refuses 891 = .ok (.iconst 0, 1) := by decide +kernel
theorem dL_refuses_892 : decode cL_refuses 892 = .ok (.invokestatic 86, 3) := by decide +kernel
theorem dL_refuses_895 : decode cL_refuses 895 = .ok (.ldc 75, 2) := by decide +kernel
theorem dL_refuses_897 : decode cL_refuses 897 = .ok (.if_icmp .ne 38, 3) := by decide +kernel
theorem dL_refuses_900 : decode cL_refuses 900 = .ok (.aload_n 0, 1) := by decide +kernel
theorem dL_refuses_901 : decode cL_refuses 901 = .ok (.bipush 19, 2) := by decide +kernel
theorem dL_refuses_903 : decode cL_refuses 903 = .ok (.iload 7, 2) := by decide +kernel
theorem dL_refuses_905 : decode cL_refuses 905 = .ok (.iconst 0, 1) := by decide +kernel
theorem dL_refuses_906 : decode cL_refuses 906 = .ok (.iconst 0, 1) := by decide +kernel
theorem dL_refuses_907 : decode cL_refuses 907 = .ok (.iconst 0, 1) := by decide +kernel
theorem dL_refuses_908 : decode cL_refuses 908 = .ok (.invokestatic 86, 3) := by decide +kernel
theorem dL_refuses_911 : decode cL_refuses 911 = .ok (.ldc 78, 2) := by decide +kernel
theorem dL_refuses_913 : decode cL_refuses 913 = .ok (.if_icmp .ne 22, 3) := by decide +kernel
theorem dL_refuses_916 : decode cL_refuses 916 = .ok (.aload_n 0, 1) := by decide +kernel
theorem dL_refuses_917 : decode cL_refuses 917 = .ok (.bipush 19, 2) := by decide +kernel
