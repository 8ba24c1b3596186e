theorem dL_law_587 : decode cL_law 587 = .ok (.aload_n 1, 1) := by decide +kernel
theorem dL_law_588 : decode cL_law 588 = .ok (.aload_n 0, 1) := by decide +kernel
theorem dL_law_589 : decode cL_law 589 = .ok (.iload_n 3, 1) := by decide +kernel
theorem dL_law_590 : decode cL_law 590 = .ok (.iconst 1, 1) := by decide +kernel
theorem dL_law_591 : decode cL_law 591 = .ok (.iadd, 1) := by decide +kernel
theorem dL_law_592 : decode cL_law 592 = .ok (.iaload, 1) := by decide +kernel
theorem dL_law_593 : decode cL_law 593 = .ok (.invokevirtual 85, 3) := by decide +kernel
theorem dL_law_596 : decode cL_law 596 = .ok (.aload_n 2, 1) := by decide +kernel
theorem dL_law_597 : decode cL_law 597 = .ok (.aload_n 0, 1) := by decide +kernel
theorem dL_law_598 : decode cL_law 598 = .ok (.iload_n 3, 1) := by decide +kernel
theorem dL_law_599 : decode cL_law 599 = .ok (.iconst 1, 1) := by decide +kernel
theorem dL_law_600 : decode cL_law 600 = .ok (.iadd, 1) := by decide +kernel
theorem dL_law_601 : decode cL_law 601 = .ok (.iaload, 1) := by decide +kernel
theorem dL_law_602 : decode cL_law 602 = .ok (.invokevirtual 88, 3) := by decide +kernel
theorem dL_law_605 : decode cL_law 605 = .ok (.if_icmp .eq 554, 3) := by decide +kernel
theorem dL_law_608 : decode cL_law 608 = .ok (.iconst 0, 1) := by decide +kernel
theorem dL_law_609 : decode cL_law 609 = .ok (.ireturn, 1) := by decide +kernel
theorem dL_law_610 : decode cL_law 610 = .ok (.aload_n 1, 1) := by decide +kernel
theorem dL_law_611 : decode cL_law 611 = .ok (.aload_n 0, 1) := by decide +kernel
theorem dL_law_612 : decode cL_law 612 = .ok (.iload_n 3, 1) := by decide +kernel
theorem dL_law_613 : decode cL_law 613 = .ok (.iconst 1, 1) := by decide +kernel
theorem dL_law_614 : decode cL_law 614 = .ok (.iadd, 1) := by decide +kernel
theorem dL_law_615 : decode cL_law 615 = .ok (.iaload, 1) := by decide +kernel
theorem dL_law_616 : decode cL_law 616 = .ok (.aload_n 0, 1) := by decide +kernel
theorem dL_law_617 : decode cL_law 617 = .ok (.iload_n 3, 1) := by decide +kernel
theorem dL_law_618 : decode cL_law 618 = .ok (.iconst 2, 1) := by decide +kernel
theorem dL_law_619 : decode cL_law 619 = .ok (.iadd, 1) := by decide +kernel
theorem dL_law_620 : decode cL_law 620 = .ok (.iaload, 1) := by decide +kernel
theorem dL_law_621 : decode cL_law 621 = .ok (.invokevirtual 89, 3) := by decide +kernel
theorem dL_law_624 : decode cL_law 624 = .ok (.aload_n 2, 1) := by decide +kernel
theorem dL_law_625 : decode cL_law 625 = .ok (.aload_n 0, 1) := by decide +kernel
theorem dL_law_626 : decode cL_law 626 = .ok (.iload_n 3, 1) := by decide +kernel
theorem dL_law_627 : decode cL_law 627 = .ok (.iconst 1, 1) := by decide +kernel
theorem dL_law_628 : decode cL_law 628 = .ok (.iadd, 1) := by decide +kernel
theorem dL_law_629 : decode cL_law 629 = .ok (.iaload, 1) := by decide +kernel
theorem dL_law_630 : decode cL_law 630 = .ok (.aload_n 0, 1) := by decide +kernel
theorem dL_law_631 : decode cL_law 631 = .ok (.iload_n 3, 1) := by decide +kernel
theorem dL_law_632 : decode cL_law 632 = .ok (.iconst 2, 1) := by decide +kernel
theorem dL_law_633 : decode cL_law 633 = .ok (.iadd, 1) := by decide +kernel
theorem dL_law_634 : decode cL_law 634 = .ok (.iaload, 1) := by decide +kernel
theorem dL_law_635 : decode cL_law 635 = .ok (.invokevirtual 92, 3) := by decide +kernel
theorem dL_law_638 : decode cL_law 638 = .ok (.if_icmp .eq 521, 3) := by decide +kernel
theorem dL_law_641 : decode cL_law 641 = .ok (.iconst 0, 1) := by decide +kernel
theorem dL_law_642 : decode cL_law 642 = .ok (.ireturn, 1) := by decide +kernel
theorem dL_law_643 : decode cL_law 643 = .ok (.aload_n 1, 1) := by decide +kernel
theorem dL_law_644 : decode cL_law 644 = .ok (.aload_n 0, 1) := by decide +kernel
theorem dL_law_645 : decode cL_law 645 = .ok (.iload_n 3, 1) := by decide +kernel
theorem dL_law_646 : decode cL_law 646 = .ok (.iconst 1, 1) := by decide +kernel
theorem dL_law_647 : decode cL_law 647 = .ok (.iadd, 1) := by decide +kernel
theorem dL_law_648 : decode cL_law 648 = .ok (.iaload, 1) := by decide +kernel
theorem dL_law_649 : decode cL_law 649 = .ok (.aload_n 0, 1) := by decide +kernel
theorem dL_law_650 : decode cL_law 650 = .ok (.iload_n 3, 1) := by decide +kernel
theorem dL_law_651 : decode cL_law 651 = .ok (.iconst 2, 1) := by decide +kernel
theorem dL_law_652 : decode cL_law 652 = .ok (.iadd, 1) := by decide +kernel
theorem dL_law_653 : decode cL_law 653 = .ok (.iaload, 1) := by decide +kernel
theorem dL_law_654 : decode cL_law 654 = .ok (.invokevirtual 93, 3) := by decide +kernel
theorem dL_law_657 : decode cL_law 657 = .ok (.aload_n 2, 1) := by decide +kernel
theorem dL_law_658 : decode cL_law 658 = .ok (.aload_n 0, 1) := by decide +kernel
theorem dL_law_659 : decode cL_law 659 = .ok (.iload_n 3, 1) := by decide +kernel
theorem dL_law_660 : decode cL_law 660 = .ok (.iconst 1, 1) := by decide +kernel
theorem dL_law_661 : decode cL_law 661 = .ok (.iadd, 1) := by decide +kernel
theorem dL_law_662 : decode cL_law 662 = .ok (.iaload, 1) := by decide +kernel
theorem dL_law_663 : decode cL_law 663 = .ok (.aload_n 0, 1) := by decide +kernel
theorem dL_law_664 : decode cL_law 664 = .ok (.iload_n 3, 1) := by decide +kernel
theorem dL_law_665 : decode cL_law 665 = .ok (.iconst 2, 1) := by decide +kernel
theorem dL_law_666 : decode cL_law 666 = .ok (.iadd, 1) := by decide +kernel
theorem dL_law_667 : decode cL_law 667 = .ok (.iaload, 1) := by decide +kernel
theorem dL_law_668 : decode cL_law 668 = .ok (.invokevirtual 96, 3) := by decide +kernel
theorem dL_law_671 : decode cL_law 671 = .ok (.if_icmp .eq 488, 3) := by decide +kernel
theorem dL_law_674 : decode cL_law 674 = .ok (.iconst 0, 1) := by decide +kernel
theorem dL_law_675 : decode cL_law 675 = .ok (.ireturn, 1) := by decide +kernel
theorem dL_law_676 : decode cL_law 676 = .ok (.aload_n 1, 1) := by decide +kernel
theorem dL_law_677 : decode cL_law 677 = .ok (.aload_n 0, 1) := by decide +kernel
theorem dL_law_678 : decode cL_law 678 = .ok (.iload_n 3, 1) := by decide +kernel
theorem dL_law_679 : decode cL_law 679 = .ok (.iconst 1, 1) := by decide +kernel
theorem dL_law_680 : decode cL_law 680 = .ok (.iadd, 1) := by decide +kernel
theorem dL_law_681 : decode cL_law 681 = .ok (.iaload, 1) := by decide +kernel
theorem dL_law_682 : decode cL_law 682 = .ok (.aload_n 0, 1) := by decide +kernel
theorem dL_law_683 : decode cL_law 683 = .ok (.iload_n 3, 1) := by decide +kernel
theorem dL_law_684 : decode cL_law 684 = .ok (.iconst 2, 1) := by decide +kernel
theorem dL_law_685 : decode cL_law 685 = .ok (.iadd, 1) := by decide +kernel
theorem dL_law_686 : decode cL_law 686 = .ok (.iaload, 1) := by decide +kernel
theorem dL_law_687 : decode cL_law 687 = .ok (.aload_n 0, 1) := by decide +kernel
theorem dL_law_688 : decode cL_law 688 = .ok (.iload_n 3, 1) := by decide +kernel
theorem dL_law_689 : decode cL_law 689 = .ok (.iconst 3, 1) := by decide +kernel
theorem dL_law_690 : decode cL_law 690 = .ok (.iadd, 1) := by decide +kernel
theorem dL_law_691 : decode cL_law 691 = .ok (.iaload, 1) := by decide +kernel
theorem dL_law_692 : decode cL_law 692 = .ok (.invokevirtual 97, 3) := by decide +kernel
theorem dL_law_695 : decode cL_law 695 = .ok (.aload_n 2, 1) := by decide +kernel
theorem dL_law_696 : decode cL_law 696 = .ok (.aload_n 0, 1) := by decide +kernel
theorem dL_law_697 : decode cL_law 697 = .ok (.iload_n 3, 1) := by decide +kernel
theorem dL_law_698 : decode cL_law 698 = .ok (.iconst 1, 1) := by decide +kernel
theorem dL_law_699 : decode cL_law 699 = .ok (.iadd, 1) := by decide +kernel
theorem dL_law_700 : decode cL_law 700 = .ok (.iaload, 1) := by decide +kernel
theorem dL_law_701 : decode cL_law 701 = .ok (.aload_n 0, 1) := by decide +kernel
theorem dL_law_702 : decode cL_law 702 = .ok (.iload_n 3, 1) := by decide +kernel
theorem dL_law_703 : decode cL_law 703 = .ok (.iconst 2, 1) := by decide +kernel
theorem dL_law_704 : decode cL_law 704 = .ok (.iadd, 1) := by decide +kernel
theorem dL_law_705 : decode cL_law 705 = .ok (.iaload, 1) := by decide +kernel
theorem dL_law_706 : decode cL_law 706 = .ok (.aload_n 0, 1) := by decide +kernel
theorem dL_law_707 : decode cL_law 707 = .ok (.iload_n 3, 1) := by decide +kernel
theorem dL_law_708 : decode cL_law 708 = .ok (.iconst 3, 1) := by decide +kernel
theorem dL_law_709 : decode cL_law 709 = .ok (.iadd, 1) := by decide +kernel
theorem dL_law_710 : decode cL_law 710 = .ok (.iaload, 1) := by decide +kernel
theorem dL_law_711 : decode cL_law 711 = .ok (.invokevirtual 100, 3) := by decide +kernel
theorem dL_law_714 : decode cL_law 714 = .ok (.if_icmp .eq 445, 3) := by decide +kernel
theorem dL_law_717 : decode cL_law 717 = .ok (.iconst 0, 1) := by decide +kernel
theorem dL_law_718 : decode cL_law 718 = .ok (.ireturn, 1) := by decide +kernel
theorem dL_law_719 : decode cL_law 719 = .ok (.aload_n 1, 1) := by decide +kernel
theorem dL_law_720 : decode cL_law 720 = .ok (.aload_n 0, 1) := by decide +kernel
theorem dL_law_721 : decode cL_law 721 = .ok (.iload_n 3, 1) := by decide +kernel
theorem dL_law_722 : decode cL_law 722 = .ok (.iconst 1, 1) := by decide +kernel
theorem dL_law_723 : decode cL_law 723 = .ok (.iadd, 1) := by decide +kernel
theorem dL_law_724 : decode cL_law 724 = .ok (.iaload, 1) := by decide +kernel
theorem dL_law_725 : decode cL_law 725 = .ok (.aload_n 0, 1) := by decide +kernel
theorem dL_law_726 : decode cL_law 726 = .ok (.iload_n 3, 1) := by decide +kernel
theorem dL_law_727 : decode cL_law 727 = .ok (.iconst 2, 1) := by decide +kernel
theorem dL_law_728 : decode cL_law 728 = .ok (.iadd, 1) := by decide +kernel
theorem dL_law_729 : decode cL_law 729 = .ok (.iaload, 1) := by decide +kernel
theorem dL_law_730 : decode cL_law 730 = .ok (.aload_n 0, 1) := by decide +kernel
theorem dL_law_731 : decode cL_law 731 = .ok (.iload_n 3, 1) := by decide +kernel
theorem dL_law_732 : decode cL_law 732 = .ok (.iconst 3, 1) := by decide +kernel
theorem dL_law_733 : decode cL_law 733 = .ok (.iadd, 1) := by decide +kernel
theorem dL_law_734 : decode cL_law 734 = .ok (.iaload, 1) := by decide +kernel
theorem dL_law_735 : decode cL_law 735 = .ok (.invokevirtual 101, 3) := by decide +kernel
theorem dL_law_738 : decode cL_law 738 = .ok (.aload_n 2, 1) := by decide +kernel
theorem dL_law_739 : decode cL_law 739 = .ok (.aload_n 0, 1) := by decide +kernel
theorem dL_law_740 : decode cL_law 740 = .ok (.iload_n 3, 1) := by decide +kernel
theorem dL_law_741 : decode cL_law 741 = .ok (.iconst 1, 1) := by decide +kernel
theorem dL_law_742 : decode cL_law 742 = .ok (.iadd, 1) := by decide +kernel
theorem dL_law_743 : decode cL_law 743 = .ok (.iaload, 1) := by decide +kernel
theorem dL_law_744 : decode cL_law 744 = .ok (.aload_n 0, 1) := by decide +kernel
theorem dL_law_745 : decode cL_law 745 = .ok (.iload_n 3, 1) := by decide +kernel
theorem dL_law_746 : decode cL_law 746 = .ok (.iconst 2, 1) := by decide +kernel
theorem dL_law_747 : decode cL_law 747 = .ok (.iadd, 1) := by decide +kernel
theorem dL_law_748 : decode cL_law 748 = .ok (.iaload, 1) := by decide +kernel
theorem dL_law_749 : decode cL_law 749 = .ok (.aload_n 0, 1) := by decide +kernel
theorem dL_law_750 : decode cL_law 750 = .ok (.iload_n 3, 1) := by decide +kernel
theorem dL_law_751 : decode cL_law 751 = .ok (.iconst 3, 1) := by decide +kernel
theorem dL_law_752 : decode cL_law 752 = .ok (.iadd, 1) := by decide +kernel
theorem dL_law_753 : decode cL_law 753 = .ok (.iaload, 1) := by decide +kernel
theorem dL_law_754 : decode cL_law 754 = .ok (.invokevirtual 104, 3) := by decide +kernel
theorem dL_law_757 : decode cL_law 757 = .ok (.if_icmp .eq 402, 3) := by decide +kernel
theorem dL_law_760 : decode cL_law 760 = .ok (.iconst 0, 1) := by decide +kernel
theorem dL_law_761 : decode cL_law 761 = .ok (.ireturn, 1) := by decide +kernel
theorem dL_law_762 : decode cL_law 762 = .ok (.aload_n 1, 1) := by decide +kernel
theorem dL_law_763 : decode cL_law 763 = .ok (.aload_n 0, 1) := by decide +kernel
theorem dL_law_764 : decode cL_law 764 = .ok (.iload_n 3, 1) := by decide +kernel
theorem dL_law_765 : decode cL_law 765 = .ok (.iconst 1, 1) := by decide +kernel
theorem dL_law_766 : decode cL_law 766 = .ok (.iadd, 1) := by decide +kernel
theorem dL_law_767 : decode cL_law 767 = .ok (.iaload, 1) := by decide +kernel
theorem dL_law_768 : decode cL_law 768 = .ok (.aload_n 0, 1) := by decide +kernel
theorem dL_law_769 : decode cL_law 769 = .ok (.iload_n 3, 1) := by decide +kernel
theorem dL_law_770 : decode cL_law 770 = .ok (.iconst 2, 1) := by decide +kernel
theorem dL_law_771 : decode cL_law 771 = .ok (.iadd, 1) := by decide +kernel
theorem dL_law_772 : decode cL_law 772 = .ok (.iaload, 1) := by decide +kernel
theorem dL_law_773 : decode cL_law 773 = .ok (.aload_n 0, 1) := by decide +kernel
theorem dL_law_774 : decode cL_law 774 = .ok (.iload_n 3, 1) := by decide +kernel
theorem dL_law_775 : decode cL_law 775 = .ok (.iconst 3, 1) := by decide +kernel
theorem dL_law_776 : decode cL_law 776 = .ok (.iadd, 1) := by decide +kernel
theorem dL_law_777 : decode cL_law 777 = .ok (.iaload, 1) := by decide +kernel
theorem dL_law_778 : decode cL_law 778 = .ok (.aload_n 0, 1) := by decide +kernel
theorem dL_law_779 : decode cL_law 779 = .ok (.iload_n 3, 1) := by decide +kernel
theorem dL_law_780 : decode cL_law 780 = .ok (.iconst 4, 1) := by decide +kernel
theorem dL_law_781 : decode cL_law 781 = .ok (.iadd, 1) := by decide +kernel
theorem dL_law_782 : decode cL_law 782 = .ok (.iaload, 1) := by decide +kernel
theorem dL_law_783 : decode cL_law 783 = .ok (.invokevirtual 105, 3) := by decide +kernel
theorem dL_law_786 : decode cL_law 786 = .ok (.aload_n 2, 1) := by decide +kernel
theorem dL_law_787 : decode cL_law 787 = .ok (.aload_n 0, 1) := by decide +kernel
theorem dL_law_788 : decode cL_law 788 = .ok (.iload_n 3, 1) := by decide +kernel
theorem dL_law_789 : decode cL_law 789 = .ok (.iconst 1, 1) := by decide +kernel
theorem dL_law_790 : decode cL_law 790 = .ok (.iadd, 1) := by decide +kernel
theorem dL_law_791 : decode cL_law 791 = .ok (.iaload, 1) := by decide +kernel
theorem dL_law_792 : decode cL_law 792 = .ok (.aload_n 0, 1) := by decide +kernel
theorem dL_law_793 : decode cL_law 793 = .ok (.iload_n 3, 1) := by decide +kernel
theorem dL_law_794 : decode cL_law 794 = .ok (.iconst 2, 1) := by decide +kernel
theorem dL_law_795 : decode cL_law 795 = .ok (.iadd, 1) := by decide +kernel
theorem dL_law_796 : decode cL_law 796 = .ok (.iaload, 1) := by decide +kernel
theorem dL_law_797 : decode cL_law 797 = .ok (.aload_n 0, 1) := by decide +kernel
theorem dL_law_798 : decode cL_law 798 = .ok (.iload_n 3, 1) := by decide +kernel
theorem dL_law_799 : decode cL_law 799 = .ok (.iconst 3, 1) := by decide +kernel
theorem dL_law_800 : decode cL_law 800 = .ok (.iadd, 1) := by decide +kernel
theorem dL_law_801 : decode cL_law 801 = .ok (.iaload, 1) := by decide +kernel
theorem dL_law_802 : decode cL_law 802 = .ok (.aload_n 0, 1) := by decide +kernel
theorem dL_law_803 : decode cL_law 803 = .ok (.iload_n 3, 1) := by decide +kernel
theorem dL_law_804 : decode cL_law 804 = .ok (.iconst 4, 1) := by decide +kernel
theorem dL_law_805 : decode cL_law 805 = .ok (.iadd, 1) := by decide +kernel
theorem dL_law_806 : decode cL_law 806 = .ok (.iaload, 1) := by decide +kernel
theorem dL_law_807 : decode cL_law 807 = .ok (.invokevirtual 109, 3) := by decide +kernel
theorem dL_law_810 : decode cL_law 810 = .ok (.if_icmp .eq 349, 3) := by decide +kernel
theorem dL_law_813 : decode cL_law 813 = .ok (.iconst 0, 1) := by decide +kernel
theorem dL_law_814 : decode cL_law 814 = .ok (.ireturn, 1) := by decide +kernel
theorem dL_law_815 : decode cL_law 815 = .ok (.aload_n 1, 1) := by decide +kernel
theorem dL_law_816 : decode cL_law 816 = .ok (.invokevirtual 110, 3) := by decide +kernel
theorem dL_law_819 : decode cL_law 819 = .ok (.aload_n 2, 1) := by decide +kernel
theorem dL_law_820 : decode cL_law 820 = .ok (.invokevirtual 113, 3) := by decide +kernel
theorem dL_law_823 : decode cL_law 823 = .ok (.if_icmp .eq 336, 3) := by decide +kernel
theorem dL_law_826 : decode cL_law 826 = .ok (.iconst 0, 1) := by decide +kernel
theorem dL_law_827 : decode cL_law 827 = .ok (.ireturn, 1) := by decide +kernel
section LAW2
variable {nm : String} {xl : Nat} {xs : Nat → Int32} {n i : Nat} {I S : Nat → Nat → Int32} {J T : Nat → Nat → Int64} {X : Nat → Option Nat} {Q : QT}
theorem lw_term (hx : xl ≤ 320) (hi : i + 5 ≤ xl) (hG : GI n I J X) (k : ∀ I S J T, GI n I J X → Ev xl xs 7 169 (65 - n) ((65 - n) * 12) (mLn nm) 1159 [some (.ref 1004), some (.ref 0), some (.ref 33), some (.int (nI i))] [] n (sysH (ov I S) (ovJ J T) X) Q) : Ev xl xs 7 169 (65 - n) ((65 - n) * 12) (mLn nm) 587 [some (.ref 1004), some (.ref 0), some (.ref 33), some (.int (nI i))] [] n (sysH (ov I S) (ovJ J T) X) Q := by
  have hn := GI_n hG
  obtain ⟨r, hB⟩ := st_term (xl := xl) (xs := xs) (xs (nI i + 1).toNatClampNeg) hG
  refine ev_aload_n (q := 588) dL_law_587 rfl rfl ?_
  refine ev_aload_n (q := 589) dL_law_588 rfl rfl ?_
  refine ev_iload_n (q := 590) dL_law_589 rfl rfl ?_
  refine ev_iconst (q := 591) (1) dL_law_590 (by decide) rfl ?_
  refine ev_iadd (q := 592) dL_law_591 rfl ?_
  refine ev_sald (q := 593) dL_law_592 (sc_in (k := 1) (by omega) hx) rfl ?_
  refine ev_callV1iX (q := 596) dL_law_593 ca_L_85 (hB _ _) rfl (lt_n hn (by decide)) rfl rfl (Nat.le_of_ble_eq_true rfl) (Nat.le_of_ble_eq_true rfl) (by decide) (by decide) rfl (fun I2 S J2 T hp_593 => ?_)
  refine ev_aload_n (q := 597) dL_law_596 rfl rfl ?_
  refine ev_aload_n (q := 598) dL_law_597 rfl rfl ?_
  refine ev_iload_n (q := 599) dL_law_598 rfl rfl ?_
  refine ev_iconst (q := 600) (1) dL_law_599 (by decide) rfl ?_
  refine ev_iadd (q := 601) dL_law_600 rfl ?_
  refine ev_sald (q := 602) dL_law_601 (sc_in (k := 1) (by omega) hx) rfl ?_
  refine ev_callV1iX (q := 605) dL_law_602 ca_L_88 (hp_593 _ _) rfl (lt_n hn (by decide)) rfl rfl (Nat.le_of_ble_eq_true rfl) (Nat.le_of_ble_eq_true rfl) (by decide) (by decide) rfl (fun I2 S J2 T hp_602 => ?_)
  refine ev_icmp_eq (q := 608) 1159 dL_law_605 (by decide) rfl (fun c_605 => ?_) (fun c_605 => ?_)
  · exact k _ _ _ _ hp_602
  · exact absurd rfl c_605
theorem lw_wording (hx : xl ≤ 320) (hi : i + 5 ≤ xl) (hG : GI n I J X) (k : ∀ I S J T, GI n I J X → Ev xl xs 7 169 (65 - n) ((65 - n) * 12) (mLn nm) 1159 [some (.ref 1004), some (.ref 0), some (.ref 33), some (.int (nI i))] [] n (sysH (ov I S) (ovJ J T) X) Q) : Ev xl xs 7 169 (65 - n) ((65 - n) * 12) (mLn nm) 610 [some (.ref 1004), some (.ref 0), some (.ref 33), some (.int (nI i))] [] n (sysH (ov I S) (ovJ J T) X) Q := by
  have hn := GI_n hG
  obtain ⟨r, hB⟩ := st_wording (xl := xl) (xs := xs) (xs (nI i + 1).toNatClampNeg) (xs (nI i + 2).toNatClampNeg) hG
  refine ev_aload_n (q := 611) dL_law_610 rfl rfl ?_
  refine ev_aload_n (q := 612) dL_law_611 rfl rfl ?_
  refine ev_iload_n (q := 613) dL_law_612 rfl rfl ?_
  refine ev_iconst (q := 614) (1) dL_law_613 (by decide) rfl ?_
  refine ev_iadd (q := 615) dL_law_614 rfl ?_
  refine ev_sald (q := 616) dL_law_615 (sc_in (k := 1) (by omega) hx) rfl ?_
  refine ev_aload_n (q := 617) dL_law_616 rfl rfl ?_
  refine ev_iload_n (q := 618) dL_law_617 rfl rfl ?_
  refine ev_iconst (q := 619) (2) dL_law_618 (by decide) rfl ?_
  refine ev_iadd (q := 620) dL_law_619 rfl ?_
  refine ev_sald (q := 621) dL_law_620 (sc_in (k := 2) (by omega) hx) rfl ?_
  refine ev_callV2iX (q := 624) dL_law_621 ca_L_89 (hB _ _) rfl (lt_n hn (by decide)) rfl rfl (Nat.le_of_ble_eq_true rfl) (Nat.le_of_ble_eq_true rfl) (by decide) (by decide) rfl (fun I2 S J2 T hp_621 => ?_)
  refine ev_aload_n (q := 625) dL_law_624 rfl rfl ?_
  refine ev_aload_n (q := 626) dL_law_625 rfl rfl ?_
  refine ev_iload_n (q := 627) dL_law_626 rfl rfl ?_
  refine ev_iconst (q := 628) (1) dL_law_627 (by decide) rfl ?_
  refine ev_iadd (q := 629) dL_law_628 rfl ?_
  refine ev_sald (q := 630) dL_law_629 (sc_in (k := 1) (by omega) hx) rfl ?_
  refine ev_aload_n (q := 631) dL_law_630 rfl rfl ?_
  refine ev_iload_n (q := 632) dL_law_631 rfl rfl ?_
  refine ev_iconst (q := 633) (2) dL_law_632 (by decide) rfl ?_
  refine ev_iadd (q := 634) dL_law_633 rfl ?_
  refine ev_sald (q := 635) dL_law_634 (sc_in (k := 2) (by omega) hx) rfl ?_
  refine ev_callV2iX (q := 638) dL_law_635 ca_L_92 (hp_621 _ _) rfl (lt_n hn (by decide)) rfl rfl (Nat.le_of_ble_eq_true rfl) (Nat.le_of_ble_eq_true rfl) (by decide) (by decide) rfl (fun I2 S J2 T hp_635 => ?_)
  refine ev_icmp_eq (q := 641) 1159 dL_law_638 (by decide) rfl (fun c_638 => ?_) (fun c_638 => ?_)
  · exact k _ _ _ _ hp_635
  · exact absurd rfl c_638
theorem lw_most (hx : xl ≤ 320) (hi : i + 5 ≤ xl) (hG : GI n I J X) (k : ∀ I S J T, GI n I J X → Ev xl xs 7 169 (65 - n) ((65 - n) * 12) (mLn nm) 1159 [some (.ref 1004), some (.ref 0), some (.ref 33), some (.int (nI i))] [] n (sysH (ov I S) (ovJ J T) X) Q) : Ev xl xs 7 169 (65 - n) ((65 - n) * 12) (mLn nm) 643 [some (.ref 1004), some (.ref 0), some (.ref 33), some (.int (nI i))] [] n (sysH (ov I S) (ovJ J T) X) Q := by
  have hn := GI_n hG
  obtain ⟨r, hB⟩ := st_most (xl := xl) (xs := xs) (xs (nI i + 1).toNatClampNeg) (xs (nI i + 2).toNatClampNeg) hG
  refine ev_aload_n (q := 644) dL_law_643 rfl rfl ?_
  refine ev_aload_n (q := 645) dL_law_644 rfl rfl ?_
  refine ev_iload_n (q := 646) dL_law_645 rfl rfl ?_
  refine ev_iconst (q := 647) (1) dL_law_646 (by decide) rfl ?_
  refine ev_iadd (q := 648) dL_law_647 rfl ?_
  refine ev_sald (q := 649) dL_law_648 (sc_in (k := 1) (by omega) hx) rfl ?_
  refine ev_aload_n (q := 650) dL_law_649 rfl rfl ?_
  refine ev_iload_n (q := 651) dL_law_650 rfl rfl ?_
  refine ev_iconst (q := 652) (2) dL_law_651 (by decide) rfl ?_
  refine ev_iadd (q := 653) dL_law_652 rfl ?_
  refine ev_sald (q := 654) dL_law_653 (sc_in (k := 2) (by omega) hx) rfl ?_
  refine ev_callV2iX (q := 657) dL_law_654 ca_L_93 (hB _ _) rfl (lt_n hn (by decide)) rfl rfl (Nat.le_of_ble_eq_true rfl) (Nat.le_of_ble_eq_true rfl) (by decide) (by decide) rfl (fun I2 S J2 T hp_654 => ?_)
  refine ev_aload_n (q := 658) dL_law_657 rfl rfl ?_
  refine ev_aload_n (q := 659) dL_law_658 rfl rfl ?_
  refine ev_iload_n (q := 660) dL_law_659 rfl rfl ?_
  refine ev_iconst (q := 661) (1) dL_law_660 (by decide) rfl ?_
  refine ev_iadd (q := 662) dL_law_661 rfl ?_
  refine ev_sald (q := 663) dL_law_662 (sc_in (k := 1) (by omega) hx) rfl ?_
  refine ev_aload_n (q := 664) dL_law_663 rfl rfl ?_
  refine ev_iload_n (q := 665) dL_law_664 rfl rfl ?_
  refine ev_iconst (q := 666) (2) dL_law_665 (by decide) rfl ?_
  refine ev_iadd (q := 667) dL_law_666 rfl ?_
  refine ev_sald (q := 668) dL_law_667 (sc_in (k := 2) (by omega) hx) rfl ?_
  refine ev_callV2iX (q := 671) dL_law_668 ca_L_96 (hp_654 _ _) rfl (lt_n hn (by decide)) rfl rfl (Nat.le_of_ble_eq_true rfl) (Nat.le_of_ble_eq_true rfl) (by decide) (by decide) rfl (fun I2 S J2 T hp_668 => ?_)
  refine ev_icmp_eq (q := 674) 1159 dL_law_671 (by decide) rfl (fun c_671 => ?_) (fun c_671 => ?_)
  · exact k _ _ _ _ hp_668
  · exact absurd rfl c_671
theorem lw_row (hx : xl ≤ 320) (hi : i + 5 ≤ xl) (hG : GI n I J X) (k : ∀ I S J T, GI n I J X → Ev xl xs 7 169 (65 - n) ((65 - n) * 12) (mLn nm) 1159 [some (.ref 1004), some (.ref 0), some (.ref 33), some (.int (nI i))] [] n (sysH (ov I S) (ovJ J T) X) Q) : Ev xl xs 7 169 (65 - n) ((65 - n) * 12) (mLn nm) 676 [some (.ref 1004), some (.ref 0), some (.ref 33), some (.int (nI i))] [] n (sysH (ov I S) (ovJ J T) X) Q := by
  have hn := GI_n hG
  obtain ⟨r, hB⟩ := st_row (xl := xl) (xs := xs) (xs (nI i + 1).toNatClampNeg) (xs (nI i + 2).toNatClampNeg) (xs (nI i + 3).toNatClampNeg) hG
  refine ev_aload_n (q := 677) dL_law_676 rfl rfl ?_
  refine ev_aload_n (q := 678) dL_law_677 rfl rfl ?_
  refine ev_iload_n (q := 679) dL_law_678 rfl rfl ?_
  refine ev_iconst (q := 680) (1) dL_law_679 (by decide) rfl ?_
  refine ev_iadd (q := 681) dL_law_680 rfl ?_
  refine ev_sald (q := 682) dL_law_681 (sc_in (k := 1) (by omega) hx) rfl ?_
  refine ev_aload_n (q := 683) dL_law_682 rfl rfl ?_
  refine ev_iload_n (q := 684) dL_law_683 rfl rfl ?_
  refine ev_iconst (q := 685) (2) dL_law_684 (by decide) rfl ?_
  refine ev_iadd (q := 686) dL_law_685 rfl ?_
  refine ev_sald (q := 687) dL_law_686 (sc_in (k := 2) (by omega) hx) rfl ?_
  refine ev_aload_n (q := 688) dL_law_687 rfl rfl ?_
  refine ev_iload_n (q := 689) dL_law_688 rfl rfl ?_
  refine ev_iconst (q := 690) (3) dL_law_689 (by decide) rfl ?_
  refine ev_iadd (q := 691) dL_law_690 rfl ?_
  refine ev_sald (q := 692) dL_law_691 (sc_in (k := 3) (by omega) hx) rfl ?_
  refine ev_callV3iX (q := 695) dL_law_692 ca_L_97 (hB _ _) rfl (lt_n hn (by decide)) rfl rfl (Nat.le_of_ble_eq_true rfl) (Nat.le_of_ble_eq_true rfl) (by decide) (by decide) rfl (fun I2 S J2 T hp_692 => ?_)
  refine ev_aload_n (q := 696) dL_law_695 rfl rfl ?_
  refine ev_aload_n (q := 697) dL_law_696 rfl rfl ?_
  refine ev_iload_n (q := 698) dL_law_697 rfl rfl ?_
  refine ev_iconst (q := 699) (1) dL_law_698 (by decide) rfl ?_
  refine ev_iadd (q := 700) dL_law_699 rfl ?_
  refine ev_sald (q := 701) dL_law_700 (sc_in (k := 1) (by omega) hx) rfl ?_
  refine ev_aload_n (q := 702) dL_law_701 rfl rfl ?_
  refine ev_iload_n (q := 703) dL_law_702 rfl rfl ?_
  refine ev_iconst (q := 704) (2) dL_law_703 (by decide) rfl ?_
  refine ev_iadd (q := 705) dL_law_704 rfl ?_
  refine ev_sald (q := 706) dL_law_705 (sc_in (k := 2) (by omega) hx) rfl ?_
  refine ev_aload_n (q := 707) dL_law_706 rfl rfl ?_
  refine ev_iload_n (q := 708) dL_law_707 rfl rfl ?_
  refine ev_iconst (q := 709) (3) dL_law_708 (by decide) rfl ?_
  refine ev_iadd (q := 710) dL_law_709 rfl ?_
  refine ev_sald (q := 711) dL_law_710 (sc_in (k := 3) (by omega) hx) rfl ?_
  refine ev_callV3iX (q := 714) dL_law_711 ca_L_100 (hp_692 _ _) rfl (lt_n hn (by decide)) rfl rfl (Nat.le_of_ble_eq_true rfl) (Nat.le_of_ble_eq_true rfl) (by decide) (by decide) rfl (fun I2 S J2 T hp_711 => ?_)
  refine ev_icmp_eq (q := 717) 1159 dL_law_714 (by decide) rfl (fun c_714 => ?_) (fun c_714 => ?_)
  · exact k _ _ _ _ hp_711
  · exact absurd rfl c_714
theorem lw_lamps (hx : xl ≤ 320) (hi : i + 5 ≤ xl) (hG : GI n I J X) (k : ∀ I S J T, GI n I J X → Ev xl xs 7 169 (65 - n) ((65 - n) * 12) (mLn nm) 1159 [some (.ref 1004), some (.ref 0), some (.ref 33), some (.int (nI i))] [] n (sysH (ov I S) (ovJ J T) X) Q) : Ev xl xs 7 169 (65 - n) ((65 - n) * 12) (mLn nm) 719 [some (.ref 1004), some (.ref 0), some (.ref 33), some (.int (nI i))] [] n (sysH (ov I S) (ovJ J T) X) Q := by
  have hn := GI_n hG
  obtain ⟨r, hB⟩ := st_lamps (xl := xl) (xs := xs) (xs (nI i + 1).toNatClampNeg) (xs (nI i + 2).toNatClampNeg) (xs (nI i + 3).toNatClampNeg) hG
  refine ev_aload_n (q := 720) dL_law_719 rfl rfl ?_
  refine ev_aload_n (q := 721) dL_law_720 rfl rfl ?_
  refine ev_iload_n (q := 722) dL_law_721 rfl rfl ?_
  refine ev_iconst (q := 723) (1) dL_law_722 (by decide) rfl ?_
  refine ev_iadd (q := 724) dL_law_723 rfl ?_
  refine ev_sald (q := 725) dL_law_724 (sc_in (k := 1) (by omega) hx) rfl ?_
  refine ev_aload_n (q := 726) dL_law_725 rfl rfl ?_
  refine ev_iload_n (q := 727) dL_law_726 rfl rfl ?_
  refine ev_iconst (q := 728) (2) dL_law_727 (by decide) rfl ?_
  refine ev_iadd (q := 729) dL_law_728 rfl ?_
  refine ev_sald (q := 730) dL_law_729 (sc_in (k := 2) (by omega) hx) rfl ?_
  refine ev_aload_n (q := 731) dL_law_730 rfl rfl ?_
  refine ev_iload_n (q := 732) dL_law_731 rfl rfl ?_
  refine ev_iconst (q := 733) (3) dL_law_732 (by decide) rfl ?_
  refine ev_iadd (q := 734) dL_law_733 rfl ?_
  refine ev_sald (q := 735) dL_law_734 (sc_in (k := 3) (by omega) hx) rfl ?_
  refine ev_callV3iX (q := 738) dL_law_735 ca_L_101 (hB _ _) rfl (lt_n hn (by decide)) rfl rfl (Nat.le_of_ble_eq_true rfl) (Nat.le_of_ble_eq_true rfl) (by decide) (by decide) rfl (fun I2 S J2 T hp_735 => ?_)
  refine ev_aload_n (q := 739) dL_law_738 rfl rfl ?_
  refine ev_aload_n (q := 740) dL_law_739 rfl rfl ?_
  refine ev_iload_n (q := 741) dL_law_740 rfl rfl ?_
  refine ev_iconst (q := 742) (1) dL_law_741 (by decide) rfl ?_
  refine ev_iadd (q := 743) dL_law_742 rfl ?_
  refine ev_sald (q := 744) dL_law_743 (sc_in (k := 1) (by omega) hx) rfl ?_
  refine ev_aload_n (q := 745) dL_law_744 rfl rfl ?_
  refine ev_iload_n (q := 746) dL_law_745 rfl rfl ?_
  refine ev_iconst (q := 747) (2) dL_law_746 (by decide) rfl ?_
  refine ev_iadd (q := 748) dL_law_747 rfl ?_
  refine ev_sald (q := 749) dL_law_748 (sc_in (k := 2) (by omega) hx) rfl ?_
  refine ev_aload_n (q := 750) dL_law_749 rfl rfl ?_
  refine ev_iload_n (q := 751) dL_law_750 rfl rfl ?_
  refine ev_iconst (q := 752) (3) dL_law_751 (by decide) rfl ?_
  refine ev_iadd (q := 753) dL_law_752 rfl ?_
  refine ev_sald (q := 754) dL_law_753 (sc_in (k := 3) (by omega) hx) rfl ?_
  refine ev_callV3iX (q := 757) dL_law_754 ca_L_104 (hp_735 _ _) rfl (lt_n hn (by decide)) rfl rfl (Nat.le_of_ble_eq_true rfl) (Nat.le_of_ble_eq_true rfl) (by decide) (by decide) rfl (fun I2 S J2 T hp_754 => ?_)
  refine ev_icmp_eq (q := 760) 1159 dL_law_757 (by decide) rfl (fun c_757 => ?_) (fun c_757 => ?_)
  · exact k _ _ _ _ hp_754
  · exact absurd rfl c_757
theorem lw_sixths (hx : xl ≤ 320) (hi : i + 5 ≤ xl) (hG : GI n I J X) (k : ∀ I S J T, GI n I J X → Ev xl xs 7 169 (65 - n) ((65 - n) * 12) (mLn nm) 1159 [some (.ref 1004), some (.ref 0), some (.ref 33), some (.int (nI i))] [] n (sysH (ov I S) (ovJ J T) X) Q) : Ev xl xs 7 169 (65 - n) ((65 - n) * 12) (mLn nm) 762 [some (.ref 1004), some (.ref 0), some (.ref 33), some (.int (nI i))] [] n (sysH (ov I S) (ovJ J T) X) Q := by
  have hn := GI_n hG
  obtain ⟨r, hB⟩ := st_sixths (xl := xl) (xs := xs) (xs (nI i + 1).toNatClampNeg) (xs (nI i + 2).toNatClampNeg) (xs (nI i + 3).toNatClampNeg) (xs (nI i + 4).toNatClampNeg) hG
  refine ev_aload_n (q := 763) dL_law_762 rfl rfl ?_
  refine ev_aload_n (q := 764) dL_law_763 rfl rfl ?_
  refine ev_iload_n (q := 765) dL_law_764 rfl rfl ?_
  refine ev_iconst (q := 766) (1) dL_law_765 (by decide) rfl ?_
  refine ev_iadd (q := 767) dL_law_766 rfl ?_
  refine ev_sald (q := 768) dL_law_767 (sc_in (k := 1) (by omega) hx) rfl ?_
  refine ev_aload_n (q := 769) dL_law_768 rfl rfl ?_
  refine ev_iload_n (q := 770) dL_law_769 rfl rfl ?_
  refine ev_iconst (q := 771) (2) dL_law_770 (by decide) rfl ?_
  refine ev_iadd (q := 772) dL_law_771 rfl ?_
  refine ev_sald (q := 773) dL_law_772 (sc_in (k := 2) (by omega) hx) rfl ?_
  refine ev_aload_n (q := 774) dL_law_773 rfl rfl ?_
  refine ev_iload_n (q := 775) dL_law_774 rfl rfl ?_
  refine ev_iconst (q := 776) (3) dL_law_775 (by decide) rfl ?_
  refine ev_iadd (q := 777) dL_law_776 rfl ?_
  refine ev_sald (q := 778) dL_law_777 (sc_in (k := 3) (by omega) hx) rfl ?_
  refine ev_aload_n (q := 779) dL_law_778 rfl rfl ?_
  refine ev_iload_n (q := 780) dL_law_779 rfl rfl ?_
  refine ev_iconst (q := 781) (4) dL_law_780 (by decide) rfl ?_
  refine ev_iadd (q := 782) dL_law_781 rfl ?_
  refine ev_sald (q := 783) dL_law_782 (sc_in (k := 4) (by omega) hx) rfl ?_
  refine ev_callV4iX (q := 786) dL_law_783 ca_L_105 (hB _ _) rfl (lt_n hn (by decide)) rfl rfl (Nat.le_of_ble_eq_true rfl) (Nat.le_of_ble_eq_true rfl) (by decide) (by decide) rfl (fun I2 S J2 T hp_783 => ?_)
  refine ev_aload_n (q := 787) dL_law_786 rfl rfl ?_
  refine ev_aload_n (q := 788) dL_law_787 rfl rfl ?_
  refine ev_iload_n (q := 789) dL_law_788 rfl rfl ?_
  refine ev_iconst (q := 790) (1) dL_law_789 (by decide) rfl ?_
  refine ev_iadd (q := 791) dL_law_790 rfl ?_
  refine ev_sald (q := 792) dL_law_791 (sc_in (k := 1) (by omega) hx) rfl ?_
  refine ev_aload_n (q := 793) dL_law_792 rfl rfl ?_
  refine ev_iload_n (q := 794) dL_law_793 rfl rfl ?_
  refine ev_iconst (q := 795) (2) dL_law_794 (by decide) rfl ?_
  refine ev_iadd (q := 796) dL_law_795 rfl ?_
  refine ev_sald (q := 797) dL_law_796 (sc_in (k := 2) (by omega) hx) rfl ?_
  refine ev_aload_n (q := 798) dL_law_797 rfl rfl ?_
  refine ev_iload_n (q := 799) dL_law_798 rfl rfl ?_
  refine ev_iconst (q := 800) (3) dL_law_799 (by decide) rfl ?_
  refine ev_iadd (q := 801) dL_law_800 rfl ?_
  refine ev_sald (q := 802) dL_law_801 (sc_in (k := 3) (by omega) hx) rfl ?_
  refine ev_aload_n (q := 803) dL_law_802 rfl rfl ?_
  refine ev_iload_n (q := 804) dL_law_803 rfl rfl ?_
  refine ev_iconst (q := 805) (4) dL_law_804 (by decide) rfl ?_
  refine ev_iadd (q := 806) dL_law_805 rfl ?_
  refine ev_sald (q := 807) dL_law_806 (sc_in (k := 4) (by omega) hx) rfl ?_
  refine ev_callV4iX (q := 810) dL_law_807 ca_L_109 (hp_783 _ _) rfl (lt_n hn (by decide)) rfl rfl (Nat.le_of_ble_eq_true rfl) (Nat.le_of_ble_eq_true rfl) (by decide) (by decide) rfl (fun I2 S J2 T hp_807 => ?_)
  refine ev_icmp_eq (q := 813) 1159 dL_law_810 (by decide) rfl (fun c_810 => ?_) (fun c_810 => ?_)
  · exact k _ _ _ _ hp_807
  · exact absurd rfl c_810
theorem lw_votes (hx : xl ≤ 320) (hi : i + 5 ≤ xl) (hG : GI n I J X) (k : ∀ I S J T, GI n I J X → Ev xl xs 7 169 (65 - n) ((65 - n) * 12) (mLn nm) 1159 [some (.ref 1004), some (.ref 0), some (.ref 33), some (.int (nI i))] [] n (sysH (ov I S) (ovJ J T) X) Q) : Ev xl xs 7 169 (65 - n) ((65 - n) * 12) (mLn nm) 815 [some (.ref 1004), some (.ref 0), some (.ref 33), some (.int (nI i))] [] n (sysH (ov I S) (ovJ J T) X) Q := by
  have hn := GI_n hG
  obtain ⟨r, hB⟩ := st_votes (xl := xl) (xs := xs)  hG
  refine ev_aload_n (q := 816) dL_law_815 rfl rfl ?_
  refine ev_callV0iX (q := 819) dL_law_816 ca_L_110 (hB _ _) rfl (lt_n hn (by decide)) rfl rfl (Nat.le_of_ble_eq_true rfl) (Nat.le_of_ble_eq_true rfl) (by decide) (by decide) rfl (fun I2 S J2 T hp_816 => ?_)
  refine ev_aload_n (q := 820) dL_law_819 rfl rfl ?_
  refine ev_callV0iX (q := 823) dL_law_820 ca_L_113 (hp_816 _ _) rfl (lt_n hn (by decide)) rfl rfl (Nat.le_of_ble_eq_true rfl) (Nat.le_of_ble_eq_true rfl) (by decide) (by decide) rfl (fun I2 S J2 T hp_820 => ?_)
  refine ev_icmp_eq (q := 826) 1159 dL_law_823 (by decide) rfl (fun c_823 => ?_) (fun c_823 => ?_)
  · exact k _ _ _ _ hp_820
  · exact absurd rfl c_823
end LAW2
