theorem dL_law_828 : decode cL_law 828 = .ok (.aload_n 1, 1) := by decide +kernel
theorem dL_law_829 : decode cL_law 829 = .ok (.aload_n 0, 1) := by decide +kernel
theorem dL_law_830 : decode cL_law 830 = .ok (.iload_n 3, 1) := by decide +kernel
theorem dL_law_831 : decode cL_law 831 = .ok (.iconst 1, 1) := by decide +kernel
theorem dL_law_832 : decode cL_law 832 = .ok (.iadd, 1) := by decide +kernel
theorem dL_law_833 : decode cL_law 833 = .ok (.iaload, 1) := by decide +kernel
theorem dL_law_834 : decode cL_law 834 = .ok (.invokevirtual 114, 3) := by decide +kernel
theorem dL_law_837 : decode cL_law 837 = .ok (.aload_n 2, 1) := by decide +kernel
theorem dL_law_838 : decode cL_law 838 = .ok (.aload_n 0, 1) := by decide +kernel
theorem dL_law_839 : decode cL_law 839 = .ok (.iload_n 3, 1) := by decide +kernel
theorem dL_law_840 : decode cL_law 840 = .ok (.iconst 1, 1) := by decide +kernel
theorem dL_law_841 : decode cL_law 841 = .ok (.iadd, 1) := by decide +kernel
theorem dL_law_842 : decode cL_law 842 = .ok (.iaload, 1) := by decide +kernel
theorem dL_law_843 : decode cL_law 843 = .ok (.invokevirtual 117, 3) := by decide +kernel
theorem dL_law_846 : decode cL_law 846 = .ok (.if_icmp .eq 313, 3) := by decide +kernel
theorem dL_law_849 : decode cL_law 849 = .ok (.iconst 0, 1) := by decide +kernel
theorem dL_law_850 : decode cL_law 850 = .ok (.ireturn, 1) := by decide +kernel
theorem dL_law_851 : decode cL_law 851 = .ok (.aload_n 1, 1) := by decide +kernel
theorem dL_law_852 : decode cL_law 852 = .ok (.invokevirtual 118, 3) := by decide +kernel
theorem dL_law_855 : decode cL_law 855 = .ok (.aload_n 2, 1) := by decide +kernel
theorem dL_law_856 : decode cL_law 856 = .ok (.invokevirtual 121, 3) := by decide +kernel
theorem dL_law_859 : decode cL_law 859 = .ok (.if_icmp .eq 300, 3) := by decide +kernel
theorem dL_law_862 : decode cL_law 862 = .ok (.iconst 0, 1) := by decide +kernel
theorem dL_law_863 : decode cL_law 863 = .ok (.ireturn, 1) := by decide +kernel
theorem dL_law_864 : decode cL_law 864 = .ok (.aload_n 1, 1) := by decide +kernel
theorem dL_law_865 : decode cL_law 865 = .ok (.aload_n 0, 1) := by decide +kernel
theorem dL_law_866 : decode cL_law 866 = .ok (.iload_n 3, 1) := by decide +kernel
theorem dL_law_867 : decode cL_law 867 = .ok (.iconst 1, 1) := by decide +kernel
theorem dL_law_868 : decode cL_law 868 = .ok (.iadd, 1) := by decide +kernel
theorem dL_law_869 : decode cL_law 869 = .ok (.iaload, 1) := by decide +kernel
theorem dL_law_870 : decode cL_law 870 = .ok (.invokevirtual 122, 3) := by decide +kernel
theorem dL_law_873 : decode cL_law 873 = .ok (.aload_n 2, 1) := by decide +kernel
theorem dL_law_874 : decode cL_law 874 = .ok (.aload_n 0, 1) := by decide +kernel
theorem dL_law_875 : decode cL_law 875 = .ok (.iload_n 3, 1) := by decide +kernel
theorem dL_law_876 : decode cL_law 876 = .ok (.iconst 1, 1) := by decide +kernel
theorem dL_law_877 : decode cL_law 877 = .ok (.iadd, 1) := by decide +kernel
theorem dL_law_878 : decode cL_law 878 = .ok (.iaload, 1) := by decide +kernel
theorem dL_law_879 : decode cL_law 879 = .ok (.invokevirtual 125, 3) := by decide +kernel
theorem dL_law_882 : decode cL_law 882 = .ok (.if_icmp .eq 277, 3) := by decide +kernel
theorem dL_law_885 : decode cL_law 885 = .ok (.iconst 0, 1) := by decide +kernel
theorem dL_law_886 : decode cL_law 886 = .ok (.ireturn, 1) := by decide +kernel
theorem dL_law_887 : decode cL_law 887 = .ok (.aload_n 1, 1) := by decide +kernel
theorem dL_law_888 : decode cL_law 888 = .ok (.aload_n 0, 1) := by decide +kernel
theorem dL_law_889 : decode cL_law 889 = .ok (.iload_n 3, 1) := by decide +kernel
theorem dL_law_890 : decode cL_law 890 = .ok (.iconst 1, 1) := by decide +kernel
theorem dL_law_891 : decode cL_law 891 = .ok (.iadd, 1) := by decide +kernel
theorem dL_law_892 : decode cL_law 892 = .ok (.iaload, 1) := by decide +kernel
theorem dL_law_893 : decode cL_law 893 = .ok (.invokevirtual 126, 3) := by decide +kernel
theorem dL_law_896 : decode cL_law 896 = .ok (.aload_n 2, 1) := by decide +kernel
theorem dL_law_897 : decode cL_law 897 = .ok (.aload_n 0, 1) := by decide +kernel
theorem dL_law_898 : decode cL_law 898 = .ok (.iload_n 3, 1) := by decide +kernel
theorem dL_law_899 : decode cL_law 899 = .ok (.iconst 1, 1) := by decide +kernel
theorem dL_law_900 : decode cL_law 900 = .ok (.iadd, 1) := by decide +kernel
theorem dL_law_901 : decode cL_law 901 = .ok (.iaload, 1) := by decide +kernel
theorem dL_law_902 : decode cL_law 902 = .ok (.invokevirtual 129, 3) := by decide +kernel
theorem dL_law_905 : decode cL_law 905 = .ok (.if_icmp .eq 254, 3) := by decide +kernel
theorem dL_law_908 : decode cL_law 908 = .ok (.iconst 0, 1) := by decide +kernel
theorem dL_law_909 : decode cL_law 909 = .ok (.ireturn, 1) := by decide +kernel
theorem dL_law_910 : decode cL_law 910 = .ok (.aload_n 1, 1) := by decide +kernel
theorem dL_law_911 : decode cL_law 911 = .ok (.aload_n 0, 1) := by decide +kernel
theorem dL_law_912 : decode cL_law 912 = .ok (.iload_n 3, 1) := by decide +kernel
theorem dL_law_913 : decode cL_law 913 = .ok (.iconst 1, 1) := by decide +kernel
theorem dL_law_914 : decode cL_law 914 = .ok (.iadd, 1) := by decide +kernel
theorem dL_law_915 : decode cL_law 915 = .ok (.iaload, 1) := by decide +kernel
theorem dL_law_916 : decode cL_law 916 = .ok (.aload_n 0, 1) := by decide +kernel
theorem dL_law_917 : decode cL_law 917 = .ok (.iload_n 3, 1) := by decide +kernel
theorem dL_law_918 : decode cL_law 918 = .ok (.iconst 2, 1) := by decide +kernel
theorem dL_law_919 : decode cL_law 919 = .ok (.iadd, 1) := by decide +kernel
theorem dL_law_920 : decode cL_law 920 = .ok (.iaload, 1) := by decide +kernel
theorem dL_law_921 : decode cL_law 921 = .ok (.invokevirtual 130, 3) := by decide +kernel
theorem dL_law_924 : decode cL_law 924 = .ok (.aload_n 2, 1) := by decide +kernel
theorem dL_law_925 : decode cL_law 925 = .ok (.aload_n 0, 1) := by decide +kernel
theorem dL_law_926 : decode cL_law 926 = .ok (.iload_n 3, 1) := by decide +kernel
theorem dL_law_927 : decode cL_law 927 = .ok (.iconst 1, 1) := by decide +kernel
theorem dL_law_928 : decode cL_law 928 = .ok (.iadd, 1) := by decide +kernel
theorem dL_law_929 : decode cL_law 929 = .ok (.iaload, 1) := by decide +kernel
theorem dL_law_930 : decode cL_law 930 = .ok (.aload_n 0, 1) := by decide +kernel
theorem dL_law_931 : decode cL_law 931 = .ok (.iload_n 3, 1) := by decide +kernel
theorem dL_law_932 : decode cL_law 932 = .ok (.iconst 2, 1) := by decide +kernel
theorem dL_law_933 : decode cL_law 933 = .ok (.iadd, 1) := by decide +kernel
theorem dL_law_934 : decode cL_law 934 = .ok (.iaload, 1) := by decide +kernel
theorem dL_law_935 : decode cL_law 935 = .ok (.invokevirtual 133, 3) := by decide +kernel
theorem dL_law_938 : decode cL_law 938 = .ok (.if_icmp .eq 221, 3) := by decide +kernel
theorem dL_law_941 : decode cL_law 941 = .ok (.iconst 0, 1) := by decide +kernel
theorem dL_law_942 : decode cL_law 942 = .ok (.ireturn, 1) := by decide +kernel
theorem dL_law_943 : decode cL_law 943 = .ok (.aload_n 1, 1) := by decide +kernel
theorem dL_law_944 : decode cL_law 944 = .ok (.aload_n 0, 1) := by decide +kernel
theorem dL_law_945 : decode cL_law 945 = .ok (.iload_n 3, 1) := by decide +kernel
theorem dL_law_946 : decode cL_law 946 = .ok (.iconst 1, 1) := by decide +kernel
theorem dL_law_947 : decode cL_law 947 = .ok (.iadd, 1) := by decide +kernel
theorem dL_law_948 : decode cL_law 948 = .ok (.iaload, 1) := by decide +kernel
theorem dL_law_949 : decode cL_law 949 = .ok (.invokevirtual 134, 3) := by decide +kernel
theorem dL_law_952 : decode cL_law 952 = .ok (.aload_n 2, 1) := by decide +kernel
theorem dL_law_953 : decode cL_law 953 = .ok (.aload_n 0, 1) := by decide +kernel
theorem dL_law_954 : decode cL_law 954 = .ok (.iload_n 3, 1) := by decide +kernel
theorem dL_law_955 : decode cL_law 955 = .ok (.iconst 1, 1) := by decide +kernel
theorem dL_law_956 : decode cL_law 956 = .ok (.iadd, 1) := by decide +kernel
theorem dL_law_957 : decode cL_law 957 = .ok (.iaload, 1) := by decide +kernel
theorem dL_law_958 : decode cL_law 958 = .ok (.invokevirtual 137, 3) := by decide +kernel
theorem dL_law_961 : decode cL_law 961 = .ok (.if_icmp .eq 198, 3) := by decide +kernel
theorem dL_law_964 : decode cL_law 964 = .ok (.iconst 0, 1) := by decide +kernel
theorem dL_law_965 : decode cL_law 965 = .ok (.ireturn, 1) := by decide +kernel
theorem dL_law_966 : decode cL_law 966 = .ok (.aload_n 1, 1) := by decide +kernel
theorem dL_law_967 : decode cL_law 967 = .ok (.invokevirtual 138, 3) := by decide +kernel
theorem dL_law_970 : decode cL_law 970 = .ok (.aload_n 2, 1) := by decide +kernel
theorem dL_law_971 : decode cL_law 971 = .ok (.invokevirtual 141, 3) := by decide +kernel
theorem dL_law_974 : decode cL_law 974 = .ok (.if_icmp .eq 185, 3) := by decide +kernel
theorem dL_law_977 : decode cL_law 977 = .ok (.iconst 0, 1) := by decide +kernel
theorem dL_law_978 : decode cL_law 978 = .ok (.ireturn, 1) := by decide +kernel
theorem dL_law_979 : decode cL_law 979 = .ok (.aload_n 1, 1) := by decide +kernel
theorem dL_law_980 : decode cL_law 980 = .ok (.aload_n 0, 1) := by decide +kernel
theorem dL_law_981 : decode cL_law 981 = .ok (.iload_n 3, 1) := by decide +kernel
theorem dL_law_982 : decode cL_law 982 = .ok (.iconst 1, 1) := by decide +kernel
theorem dL_law_983 : decode cL_law 983 = .ok (.iadd, 1) := by decide +kernel
theorem dL_law_984 : decode cL_law 984 = .ok (.iaload, 1) := by decide +kernel
theorem dL_law_985 : decode cL_law 985 = .ok (.aload_n 0, 1) := by decide +kernel
theorem dL_law_986 : decode cL_law 986 = .ok (.iload_n 3, 1) := by decide +kernel
theorem dL_law_987 : decode cL_law 987 = .ok (.iconst 2, 1) := by decide +kernel
theorem dL_law_988 : decode cL_law 988 = .ok (.iadd, 1) := by decide +kernel
theorem dL_law_989 : decode cL_law 989 = .ok (.iaload, 1) := by decide +kernel
theorem dL_law_990 : decode cL_law 990 = .ok (.invokevirtual 142, 3) := by decide +kernel
theorem dL_law_993 : decode cL_law 993 = .ok (.aload_n 2, 1) := by decide +kernel
theorem dL_law_994 : decode cL_law 994 = .ok (.aload_n 0, 1) := by decide +kernel
theorem dL_law_995 : decode cL_law 995 = .ok (.iload_n 3, 1) := by decide +kernel
theorem dL_law_996 : decode cL_law 996 = .ok (.iconst 1, 1) := by decide +kernel
theorem dL_law_997 : decode cL_law 997 = .ok (.iadd, 1) := by decide +kernel
theorem dL_law_998 : decode cL_law 998 = .ok (.iaload, 1) := by decide +kernel
theorem dL_law_999 : decode cL_law 999 = .ok (.aload_n 0, 1) := by decide +kernel
theorem dL_law_1000 : decode cL_law 1000 = .ok (.iload_n 3, 1) := by decide +kernel
theorem dL_law_1001 : decode cL_law 1001 = .ok (.iconst 2, 1) := by decide +kernel
theorem dL_law_1002 : decode cL_law 1002 = .ok (.iadd, 1) := by decide +kernel
theorem dL_law_1003 : decode cL_law 1003 = .ok (.iaload, 1) := by decide +kernel
theorem dL_law_1004 : decode cL_law 1004 = .ok (.invokevirtual 146, 3) := by decide +kernel
theorem dL_law_1007 : decode cL_law 1007 = .ok (.lcmp, 1) := by decide +kernel
theorem dL_law_1008 : decode cL_law 1008 = .ok (.ifCond .eq 151, 3) := by decide +kernel
theorem dL_law_1011 : decode cL_law 1011 = .ok (.iconst 0, 1) := by decide +kernel
theorem dL_law_1012 : decode cL_law 1012 = .ok (.ireturn, 1) := by decide +kernel
section LAW3
variable {nm : String} {xl : Nat} {xs : Nat → Int32} {n i : Nat} {I S : Nat → Nat → Int32} {J T : Nat → Nat → Int64} {X : Nat → Option Nat} {Q : QT}
theorem lw_agreed (hx : xl ≤ 320) (hi : i + 5 ≤ xl) (hG : GI n I J X) (k : ∀ I S J T, GI n I J X → Ev xl xs 7 169 (65 - n) ((65 - n) * 12) (mLn nm) 1159 [some (.ref 1004), some (.ref 0), some (.ref 33), some (.int (nI i))] [] n (sysH (ov I S) (ovJ J T) X) Q) : Ev xl xs 7 169 (65 - n) ((65 - n) * 12) (mLn nm) 828 [some (.ref 1004), some (.ref 0), some (.ref 33), some (.int (nI i))] [] n (sysH (ov I S) (ovJ J T) X) Q := by
  have hn := GI_n hG
  obtain ⟨r, hB⟩ := st_agreed (xl := xl) (xs := xs) (xs (nI i + 1).toNatClampNeg) hG
  refine ev_aload_n (q := 829) dL_law_828 rfl rfl ?_
  refine ev_aload_n (q := 830) dL_law_829 rfl rfl ?_
  refine ev_iload_n (q := 831) dL_law_830 rfl rfl ?_
  refine ev_iconst (q := 832) (1) dL_law_831 (by decide) rfl ?_
  refine ev_iadd (q := 833) dL_law_832 rfl ?_
  refine ev_sald (q := 834) dL_law_833 (sc_in (k := 1) (by omega) hx) rfl ?_
  refine ev_callV1iX (q := 837) dL_law_834 ca_L_114 (hB _ _) rfl (lt_n hn (by decide)) rfl rfl (Nat.le_of_ble_eq_true rfl) (Nat.le_of_ble_eq_true rfl) (by decide) (by decide) rfl (fun I2 S J2 T hp_834 => ?_)
  refine ev_aload_n (q := 838) dL_law_837 rfl rfl ?_
  refine ev_aload_n (q := 839) dL_law_838 rfl rfl ?_
  refine ev_iload_n (q := 840) dL_law_839 rfl rfl ?_
  refine ev_iconst (q := 841) (1) dL_law_840 (by decide) rfl ?_
  refine ev_iadd (q := 842) dL_law_841 rfl ?_
  refine ev_sald (q := 843) dL_law_842 (sc_in (k := 1) (by omega) hx) rfl ?_
  refine ev_callV1iX (q := 846) dL_law_843 ca_L_117 (hp_834 _ _) rfl (lt_n hn (by decide)) rfl rfl (Nat.le_of_ble_eq_true rfl) (Nat.le_of_ble_eq_true rfl) (by decide) (by decide) rfl (fun I2 S J2 T hp_843 => ?_)
  refine ev_icmp_eq (q := 849) 1159 dL_law_846 (by decide) rfl (fun c_846 => ?_) (fun c_846 => ?_)
  · exact k _ _ _ _ hp_843
  · exact absurd rfl c_846
theorem lw_paid (hx : xl ≤ 320) (hi : i + 5 ≤ xl) (hG : GI n I J X) (k : ∀ I S J T, GI n I J X → Ev xl xs 7 169 (65 - n) ((65 - n) * 12) (mLn nm) 1159 [some (.ref 1004), some (.ref 0), some (.ref 33), some (.int (nI i))] [] n (sysH (ov I S) (ovJ J T) X) Q) : Ev xl xs 7 169 (65 - n) ((65 - n) * 12) (mLn nm) 851 [some (.ref 1004), some (.ref 0), some (.ref 33), some (.int (nI i))] [] n (sysH (ov I S) (ovJ J T) X) Q := by
  have hn := GI_n hG
  obtain ⟨r, hB⟩ := st_paid (xl := xl) (xs := xs)  hG
  refine ev_aload_n (q := 852) dL_law_851 rfl rfl ?_
  refine ev_callV0iX (q := 855) dL_law_852 ca_L_118 (hB _ _) rfl (lt_n hn (by decide)) rfl rfl (Nat.le_of_ble_eq_true rfl) (Nat.le_of_ble_eq_true rfl) (by decide) (by decide) rfl (fun I2 S J2 T hp_852 => ?_)
  refine ev_aload_n (q := 856) dL_law_855 rfl rfl ?_
  refine ev_callV0iX (q := 859) dL_law_856 ca_L_121 (hp_852 _ _) rfl (lt_n hn (by decide)) rfl rfl (Nat.le_of_ble_eq_true rfl) (Nat.le_of_ble_eq_true rfl) (by decide) (by decide) rfl (fun I2 S J2 T hp_856 => ?_)
  refine ev_icmp_eq (q := 862) 1159 dL_law_859 (by decide) rfl (fun c_859 => ?_) (fun c_859 => ?_)
  · exact k _ _ _ _ hp_856
  · exact absurd rfl c_859
theorem lw_picked (hx : xl ≤ 320) (hi : i + 5 ≤ xl) (hG : GI n I J X) (k : ∀ I S J T, GI n I J X → Ev xl xs 7 169 (65 - n) ((65 - n) * 12) (mLn nm) 1159 [some (.ref 1004), some (.ref 0), some (.ref 33), some (.int (nI i))] [] n (sysH (ov I S) (ovJ J T) X) Q) : Ev xl xs 7 169 (65 - n) ((65 - n) * 12) (mLn nm) 864 [some (.ref 1004), some (.ref 0), some (.ref 33), some (.int (nI i))] [] n (sysH (ov I S) (ovJ J T) X) Q := by
  have hn := GI_n hG
  obtain ⟨r, hB⟩ := st_picked (xl := xl) (xs := xs) (xs (nI i + 1).toNatClampNeg) hG
  refine ev_aload_n (q := 865) dL_law_864 rfl rfl ?_
  refine ev_aload_n (q := 866) dL_law_865 rfl rfl ?_
  refine ev_iload_n (q := 867) dL_law_866 rfl rfl ?_
  refine ev_iconst (q := 868) (1) dL_law_867 (by decide) rfl ?_
  refine ev_iadd (q := 869) dL_law_868 rfl ?_
  refine ev_sald (q := 870) dL_law_869 (sc_in (k := 1) (by omega) hx) rfl ?_
  refine ev_callV1iX (q := 873) dL_law_870 ca_L_122 (hB _ _) rfl (lt_n hn (by decide)) rfl rfl (Nat.le_of_ble_eq_true rfl) (Nat.le_of_ble_eq_true rfl) (by decide) (by decide) rfl (fun I2 S J2 T hp_870 => ?_)
  refine ev_aload_n (q := 874) dL_law_873 rfl rfl ?_
  refine ev_aload_n (q := 875) dL_law_874 rfl rfl ?_
  refine ev_iload_n (q := 876) dL_law_875 rfl rfl ?_
  refine ev_iconst (q := 877) (1) dL_law_876 (by decide) rfl ?_
  refine ev_iadd (q := 878) dL_law_877 rfl ?_
  refine ev_sald (q := 879) dL_law_878 (sc_in (k := 1) (by omega) hx) rfl ?_
  refine ev_callV1iX (q := 882) dL_law_879 ca_L_125 (hp_870 _ _) rfl (lt_n hn (by decide)) rfl rfl (Nat.le_of_ble_eq_true rfl) (Nat.le_of_ble_eq_true rfl) (by decide) (by decide) rfl (fun I2 S J2 T hp_879 => ?_)
  refine ev_icmp_eq (q := 885) 1159 dL_law_882 (by decide) rfl (fun c_882 => ?_) (fun c_882 => ?_)
  · exact k _ _ _ _ hp_879
  · exact absurd rfl c_882
theorem lw_fit (hx : xl ≤ 320) (hi : i + 5 ≤ xl) (hG : GI n I J X) (k : ∀ I S J T, GI n I J X → Ev xl xs 7 169 (65 - n) ((65 - n) * 12) (mLn nm) 1159 [some (.ref 1004), some (.ref 0), some (.ref 33), some (.int (nI i))] [] n (sysH (ov I S) (ovJ J T) X) Q) : Ev xl xs 7 169 (65 - n) ((65 - n) * 12) (mLn nm) 887 [some (.ref 1004), some (.ref 0), some (.ref 33), some (.int (nI i))] [] n (sysH (ov I S) (ovJ J T) X) Q := by
  have hn := GI_n hG
  obtain ⟨r, hB⟩ := st_fit (xl := xl) (xs := xs) (xs (nI i + 1).toNatClampNeg) hG
  refine ev_aload_n (q := 888) dL_law_887 rfl rfl ?_
  refine ev_aload_n (q := 889) dL_law_888 rfl rfl ?_
  refine ev_iload_n (q := 890) dL_law_889 rfl rfl ?_
  refine ev_iconst (q := 891) (1) dL_law_890 (by decide) rfl ?_
  refine ev_iadd (q := 892) dL_law_891 rfl ?_
  refine ev_sald (q := 893) dL_law_892 (sc_in (k := 1) (by omega) hx) rfl ?_
  refine ev_callV1iX (q := 896) dL_law_893 ca_L_126 (hB _ _) rfl (lt_n hn (by decide)) rfl rfl (Nat.le_of_ble_eq_true rfl) (Nat.le_of_ble_eq_true rfl) (by decide) (by decide) rfl (fun I2 S J2 T hp_893 => ?_)
  refine ev_aload_n (q := 897) dL_law_896 rfl rfl ?_
  refine ev_aload_n (q := 898) dL_law_897 rfl rfl ?_
  refine ev_iload_n (q := 899) dL_law_898 rfl rfl ?_
  refine ev_iconst (q := 900) (1) dL_law_899 (by decide) rfl ?_
  refine ev_iadd (q := 901) dL_law_900 rfl ?_
  refine ev_sald (q := 902) dL_law_901 (sc_in (k := 1) (by omega) hx) rfl ?_
  refine ev_callV1iX (q := 905) dL_law_902 ca_L_129 (hp_893 _ _) rfl (lt_n hn (by decide)) rfl rfl (Nat.le_of_ble_eq_true rfl) (Nat.le_of_ble_eq_true rfl) (by decide) (by decide) rfl (fun I2 S J2 T hp_902 => ?_)
  refine ev_icmp_eq (q := 908) 1159 dL_law_905 (by decide) rfl (fun c_905 => ?_) (fun c_905 => ?_)
  · exact k _ _ _ _ hp_902
  · exact absurd rfl c_905
theorem lw_came (hx : xl ≤ 320) (hi : i + 5 ≤ xl) (hG : GI n I J X) (k : ∀ I S J T, GI n I J X → Ev xl xs 7 169 (65 - n) ((65 - n) * 12) (mLn nm) 1159 [some (.ref 1004), some (.ref 0), some (.ref 33), some (.int (nI i))] [] n (sysH (ov I S) (ovJ J T) X) Q) : Ev xl xs 7 169 (65 - n) ((65 - n) * 12) (mLn nm) 910 [some (.ref 1004), some (.ref 0), some (.ref 33), some (.int (nI i))] [] n (sysH (ov I S) (ovJ J T) X) Q := by
  have hn := GI_n hG
  obtain ⟨r, hB⟩ := st_came (xl := xl) (xs := xs) (xs (nI i + 1).toNatClampNeg) (xs (nI i + 2).toNatClampNeg) hG
  refine ev_aload_n (q := 911) dL_law_910 rfl rfl ?_
  refine ev_aload_n (q := 912) dL_law_911 rfl rfl ?_
  refine ev_iload_n (q := 913) dL_law_912 rfl rfl ?_
  refine ev_iconst (q := 914) (1) dL_law_913 (by decide) rfl ?_
  refine ev_iadd (q := 915) dL_law_914 rfl ?_
  refine ev_sald (q := 916) dL_law_915 (sc_in (k := 1) (by omega) hx) rfl ?_
  refine ev_aload_n (q := 917) dL_law_916 rfl rfl ?_
  refine ev_iload_n (q := 918) dL_law_917 rfl rfl ?_
  refine ev_iconst (q := 919) (2) dL_law_918 (by decide) rfl ?_
  refine ev_iadd (q := 920) dL_law_919 rfl ?_
  refine ev_sald (q := 921) dL_law_920 (sc_in (k := 2) (by omega) hx) rfl ?_
  refine ev_callV2iX (q := 924) dL_law_921 ca_L_130 (hB _ _) rfl (lt_n hn (by decide)) rfl rfl (Nat.le_of_ble_eq_true rfl) (Nat.le_of_ble_eq_true rfl) (by decide) (by decide) rfl (fun I2 S J2 T hp_921 => ?_)
  refine ev_aload_n (q := 925) dL_law_924 rfl rfl ?_
  refine ev_aload_n (q := 926) dL_law_925 rfl rfl ?_
  refine ev_iload_n (q := 927) dL_law_926 rfl rfl ?_
  refine ev_iconst (q := 928) (1) dL_law_927 (by decide) rfl ?_
  refine ev_iadd (q := 929) dL_law_928 rfl ?_
  refine ev_sald (q := 930) dL_law_929 (sc_in (k := 1) (by omega) hx) rfl ?_
  refine ev_aload_n (q := 931) dL_law_930 rfl rfl ?_
  refine ev_iload_n (q := 932) dL_law_931 rfl rfl ?_
  refine ev_iconst (q := 933) (2) dL_law_932 (by decide) rfl ?_
  refine ev_iadd (q := 934) dL_law_933 rfl ?_
  refine ev_sald (q := 935) dL_law_934 (sc_in (k := 2) (by omega) hx) rfl ?_
  refine ev_callV2iX (q := 938) dL_law_935 ca_L_133 (hp_921 _ _) rfl (lt_n hn (by decide)) rfl rfl (Nat.le_of_ble_eq_true rfl) (Nat.le_of_ble_eq_true rfl) (by decide) (by decide) rfl (fun I2 S J2 T hp_935 => ?_)
  refine ev_icmp_eq (q := 941) 1159 dL_law_938 (by decide) rfl (fun c_938 => ?_) (fun c_938 => ?_)
  · exact k _ _ _ _ hp_935
  · exact absurd rfl c_938
theorem lw_letters (hx : xl ≤ 320) (hi : i + 5 ≤ xl) (hG : GI n I J X) (k : ∀ I S J T, GI n I J X → Ev xl xs 7 169 (65 - n) ((65 - n) * 12) (mLn nm) 1159 [some (.ref 1004), some (.ref 0), some (.ref 33), some (.int (nI i))] [] n (sysH (ov I S) (ovJ J T) X) Q) : Ev xl xs 7 169 (65 - n) ((65 - n) * 12) (mLn nm) 943 [some (.ref 1004), some (.ref 0), some (.ref 33), some (.int (nI i))] [] n (sysH (ov I S) (ovJ J T) X) Q := by
  have hn := GI_n hG
  obtain ⟨r, hB⟩ := st_letters (xl := xl) (xs := xs) (xs (nI i + 1).toNatClampNeg) hG
  refine ev_aload_n (q := 944) dL_law_943 rfl rfl ?_
  refine ev_aload_n (q := 945) dL_law_944 rfl rfl ?_
  refine ev_iload_n (q := 946) dL_law_945 rfl rfl ?_
  refine ev_iconst (q := 947) (1) dL_law_946 (by decide) rfl ?_
  refine ev_iadd (q := 948) dL_law_947 rfl ?_
  refine ev_sald (q := 949) dL_law_948 (sc_in (k := 1) (by omega) hx) rfl ?_
  refine ev_callV1iX (q := 952) dL_law_949 ca_L_134 (hB _ _) rfl (lt_n hn (by decide)) rfl rfl (Nat.le_of_ble_eq_true rfl) (Nat.le_of_ble_eq_true rfl) (by decide) (by decide) rfl (fun I2 S J2 T hp_949 => ?_)
  refine ev_aload_n (q := 953) dL_law_952 rfl rfl ?_
  refine ev_aload_n (q := 954) dL_law_953 rfl rfl ?_
  refine ev_iload_n (q := 955) dL_law_954 rfl rfl ?_
  refine ev_iconst (q := 956) (1) dL_law_955 (by decide) rfl ?_
  refine ev_iadd (q := 957) dL_law_956 rfl ?_
  refine ev_sald (q := 958) dL_law_957 (sc_in (k := 1) (by omega) hx) rfl ?_
  refine ev_callV1iX (q := 961) dL_law_958 ca_L_137 (hp_949 _ _) rfl (lt_n hn (by decide)) rfl rfl (Nat.le_of_ble_eq_true rfl) (Nat.le_of_ble_eq_true rfl) (by decide) (by decide) rfl (fun I2 S J2 T hp_958 => ?_)
  refine ev_icmp_eq (q := 964) 1159 dL_law_961 (by decide) rfl (fun c_961 => ?_) (fun c_961 => ?_)
  · exact k _ _ _ _ hp_958
  · exact absurd rfl c_961
theorem lw_forget (hx : xl ≤ 320) (hi : i + 5 ≤ xl) (hG : GI n I J X) (k : ∀ I S J T, GI n I J X → Ev xl xs 7 169 (65 - n) ((65 - n) * 12) (mLn nm) 1159 [some (.ref 1004), some (.ref 0), some (.ref 33), some (.int (nI i))] [] n (sysH (ov I S) (ovJ J T) X) Q) : Ev xl xs 7 169 (65 - n) ((65 - n) * 12) (mLn nm) 966 [some (.ref 1004), some (.ref 0), some (.ref 33), some (.int (nI i))] [] n (sysH (ov I S) (ovJ J T) X) Q := by
  have hn := GI_n hG
  obtain ⟨r, hB⟩ := st_forget (xl := xl) (xs := xs)  hG
  refine ev_aload_n (q := 967) dL_law_966 rfl rfl ?_
  refine ev_callV0iX (q := 970) dL_law_967 ca_L_138 (hB _ _) rfl (lt_n hn (by decide)) rfl rfl (Nat.le_of_ble_eq_true rfl) (Nat.le_of_ble_eq_true rfl) (by decide) (by decide) rfl (fun I2 S J2 T hp_967 => ?_)
  refine ev_aload_n (q := 971) dL_law_970 rfl rfl ?_
  refine ev_callV0iX (q := 974) dL_law_971 ca_L_141 (hp_967 _ _) rfl (lt_n hn (by decide)) rfl rfl (Nat.le_of_ble_eq_true rfl) (Nat.le_of_ble_eq_true rfl) (by decide) (by decide) rfl (fun I2 S J2 T hp_971 => ?_)
  refine ev_icmp_eq (q := 977) 1159 dL_law_974 (by decide) rfl (fun c_974 => ?_) (fun c_974 => ?_)
  · exact k _ _ _ _ hp_971
  · exact absurd rfl c_974
theorem lw_drunk (hx : xl ≤ 320) (hi : i + 5 ≤ xl) (hG : GI n I J X) (k : ∀ I S J T, GI n I J X → Ev xl xs 7 169 (65 - n) ((65 - n) * 12) (mLn nm) 1159 [some (.ref 1004), some (.ref 0), some (.ref 33), some (.int (nI i))] [] n (sysH (ov I S) (ovJ J T) X) Q) : Ev xl xs 7 169 (65 - n) ((65 - n) * 12) (mLn nm) 979 [some (.ref 1004), some (.ref 0), some (.ref 33), some (.int (nI i))] [] n (sysH (ov I S) (ovJ J T) X) Q := by
  have hn := GI_n hG
  obtain ⟨r, hB⟩ := st_drunk (xl := xl) (xs := xs) (xs (nI i + 1).toNatClampNeg) (xs (nI i + 2).toNatClampNeg) hG
  refine ev_aload_n (q := 980) dL_law_979 rfl rfl ?_
  refine ev_aload_n (q := 981) dL_law_980 rfl rfl ?_
  refine ev_iload_n (q := 982) dL_law_981 rfl rfl ?_
  refine ev_iconst (q := 983) (1) dL_law_982 (by decide) rfl ?_
  refine ev_iadd (q := 984) dL_law_983 rfl ?_
  refine ev_sald (q := 985) dL_law_984 (sc_in (k := 1) (by omega) hx) rfl ?_
  refine ev_aload_n (q := 986) dL_law_985 rfl rfl ?_
  refine ev_iload_n (q := 987) dL_law_986 rfl rfl ?_
  refine ev_iconst (q := 988) (2) dL_law_987 (by decide) rfl ?_
  refine ev_iadd (q := 989) dL_law_988 rfl ?_
  refine ev_sald (q := 990) dL_law_989 (sc_in (k := 2) (by omega) hx) rfl ?_
  refine ev_callV2lX (q := 993) dL_law_990 ca_L_142 (hB _ _) rfl (lt_n hn (by decide)) rfl rfl (Nat.le_of_ble_eq_true rfl) (Nat.le_of_ble_eq_true rfl) (by decide) (by decide) rfl (fun I2 S J2 T hp_990 => ?_)
  refine ev_aload_n (q := 994) dL_law_993 rfl rfl ?_
  refine ev_aload_n (q := 995) dL_law_994 rfl rfl ?_
  refine ev_iload_n (q := 996) dL_law_995 rfl rfl ?_
  refine ev_iconst (q := 997) (1) dL_law_996 (by decide) rfl ?_
  refine ev_iadd (q := 998) dL_law_997 rfl ?_
  refine ev_sald (q := 999) dL_law_998 (sc_in (k := 1) (by omega) hx) rfl ?_
  refine ev_aload_n (q := 1000) dL_law_999 rfl rfl ?_
  refine ev_iload_n (q := 1001) dL_law_1000 rfl rfl ?_
  refine ev_iconst (q := 1002) (2) dL_law_1001 (by decide) rfl ?_
  refine ev_iadd (q := 1003) dL_law_1002 rfl ?_
  refine ev_sald (q := 1004) dL_law_1003 (sc_in (k := 2) (by omega) hx) rfl ?_
  refine ev_callV2lX (q := 1007) dL_law_1004 ca_L_146 (hp_990 _ _) rfl (lt_n hn (by decide)) rfl rfl (Nat.le_of_ble_eq_true rfl) (Nat.le_of_ble_eq_true rfl) (by decide) (by decide) rfl (fun I2 S J2 T hp_1004 => ?_)
  refine ev_lcmp (q := 1008) dL_law_1007 rfl ?_
  rw [lg_self]
  refine ev_if_eq (q := 1011) 1159 dL_law_1008 (by decide) rfl (fun c_1008 => ?_) (fun c_1008 => ?_)
  · exact k _ _ _ _ hp_1004
  · exact absurd rfl c_1008
end LAW3
