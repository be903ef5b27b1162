section LAWCASES
variable {p : Program} {l : Launch} {e : Env} {s : State} {m : MethodId} {below : List Frame} {meth : Method} {c : Code} {D : va_G} {cI cZ : ClassId} {ad bd : Nat → Nat} {b L : Nat} {xs : Nat → Int32} {Q : State → Prop}
theorem law_k20 (C : LC p s m c D cI cZ ad bd b L xs) {i : Nat} (hi : i + 8 ≤ L) (hL : L < 2 ^ 31) (K : ∀ P T N U, okX P → rel P (cX N) → LW p l e s m below meth c D cI cZ ad bd b Q 1168 [(0, .ref b), (1, .ref (ad 0)), (2, .ref (bd 0)), (3, .int (nI i))] [] P T N U) {P T N U : St} (ok : okX P) (h : rel P (cX N)) : LW p l e s m below meth c D cI cZ ad bd b Q 766 [(0, .ref b), (1, .ref (ad 0)), (2, .ref (bd 0)), (3, .int (nI i))] [] P T N U := by
  have okn := okN_rel h ok
  refine l_aload_n (q := 767) C dL_law_766 rfl 1 rfl rfl ?_
  refine l_aload_n (q := 768) C dL_law_767 rfl 0 rfl rfl ?_
  refine l_iload_n (q := 769) C dL_law_768 rfl 3 rfl rfl ?_
  refine l_iconst (q := 770) (v := nI 1) C dL_law_769 (by decide) rfl ?_
  refine l_iadd (q := 771) C dL_law_770 rfl ?_
  refine l_sld (q := 772) C (by omega) hL dL_law_771 rfl ?_
  refine l_X (q := 775) (As := [.int (xs (i + 1))]) (rest := []) C (c_X7_search C.2.1 ok (xs (i + 1))) xs_X7_search tim_X7_search tsel_X7_search tml_L_99 (by decide) rfl rfl (Nat.le_of_ble_eq_true rfl) dL_law_772 rfl (fun r P1 T1 hp => ?_)
  refine l_aload_n (q := 776) C dL_law_775 rfl 2 rfl rfl ?_
  refine l_aload_n (q := 777) C dL_law_776 rfl 0 rfl rfl ?_
  refine l_iload_n (q := 778) C dL_law_777 rfl 3 rfl rfl ?_
  refine l_iconst (q := 779) (v := nI 1) C dL_law_778 (by decide) rfl ?_
  refine l_iadd (q := 780) C dL_law_779 rfl ?_
  refine l_sld (q := 781) C (by omega) hL dL_law_780 rfl ?_
  refine l_N (q := 784) (As := [.int (xs (i + 1))]) (rest := [.int r]) C (c_X8_search C.2.2.1 okn (xs (i + 1))) xs_X8_search tim_X8_search tsel_X8_search tml_L_102 (by decide) rfl rfl (Nat.le_of_ble_eq_true rfl) dL_law_781 rfl (fun r2 N1 U1 hn => ?_)
  have J := j_search ok h hp hn
  exact l_icmp_eq (tgt := 1168) C dL_law_784 (by decide) J.1 (K P1 T1 N1 U1 J.2.1 J.2.2)
theorem law_k21 (C : LC p s m c D cI cZ ad bd b L xs) {i : Nat} (hi : i + 8 ≤ L) (hL : L < 2 ^ 31) (K : ∀ P T N U, okX P → rel P (cX N) → LW p l e s m below meth c D cI cZ ad bd b Q 1168 [(0, .ref b), (1, .ref (ad 0)), (2, .ref (bd 0)), (3, .int (nI i))] [] P T N U) {P T N U : St} (ok : okX P) (h : rel P (cX N)) : LW p l e s m below meth c D cI cZ ad bd b Q 789 [(0, .ref b), (1, .ref (ad 0)), (2, .ref (bd 0)), (3, .int (nI i))] [] P T N U := by
  have okn := okN_rel h ok
  refine l_aload_n (q := 790) C dL_law_789 rfl 1 rfl rfl ?_
  refine l_aload_n (q := 791) C dL_law_790 rfl 0 rfl rfl ?_
  refine l_iload_n (q := 792) C dL_law_791 rfl 3 rfl rfl ?_
  refine l_iconst (q := 793) (v := nI 1) C dL_law_792 (by decide) rfl ?_
  refine l_iadd (q := 794) C dL_law_793 rfl ?_
  refine l_sld (q := 795) C (by omega) hL dL_law_794 rfl ?_
  refine l_aload_n (q := 796) C dL_law_795 rfl 0 rfl rfl ?_
  refine l_iload_n (q := 797) C dL_law_796 rfl 3 rfl rfl ?_
  refine l_iconst (q := 798) (v := nI 2) C dL_law_797 (by decide) rfl ?_
  refine l_iadd (q := 799) C dL_law_798 rfl ?_
  refine l_sld (q := 800) C (by omega) hL dL_law_799 rfl ?_
  refine l_aload_n (q := 801) C dL_law_800 rfl 0 rfl rfl ?_
  refine l_iload_n (q := 802) C dL_law_801 rfl 3 rfl rfl ?_
  refine l_iconst (q := 803) (v := nI 3) C dL_law_802 (by decide) rfl ?_
  refine l_iadd (q := 804) C dL_law_803 rfl ?_
  refine l_sld (q := 805) C (by omega) hL dL_law_804 rfl ?_
  refine l_aload_n (q := 806) C dL_law_805 rfl 0 rfl rfl ?_
  refine l_iload_n (q := 807) C dL_law_806 rfl 3 rfl rfl ?_
  refine l_iconst (q := 808) (v := nI 4) C dL_law_807 (by decide) rfl ?_
  refine l_iadd (q := 809) C dL_law_808 rfl ?_
  refine l_sld (q := 810) C (by omega) hL dL_law_809 rfl ?_
  refine l_X (q := 813) (As := [.int (xs (i + 1)), .int (xs (i + 2)), .int (xs (i + 3)), .int (xs (i + 4))]) (rest := []) C (c_X7_pairs C.2.1 ok (xs (i + 1)) (xs (i + 2)) (xs (i + 3)) (xs (i + 4))) xs_X7_pairs tim_X7_pairs tsel_X7_pairs tml_L_103 (by decide) rfl rfl (Nat.le_of_ble_eq_true rfl) dL_law_810 rfl (fun r P1 T1 hp => ?_)
  refine l_aload_n (q := 814) C dL_law_813 rfl 2 rfl rfl ?_
  refine l_aload_n (q := 815) C dL_law_814 rfl 0 rfl rfl ?_
  refine l_iload_n (q := 816) C dL_law_815 rfl 3 rfl rfl ?_
  refine l_iconst (q := 817) (v := nI 1) C dL_law_816 (by decide) rfl ?_
  refine l_iadd (q := 818) C dL_law_817 rfl ?_
  refine l_sld (q := 819) C (by omega) hL dL_law_818 rfl ?_
  refine l_aload_n (q := 820) C dL_law_819 rfl 0 rfl rfl ?_
  refine l_iload_n (q := 821) C dL_law_820 rfl 3 rfl rfl ?_
  refine l_iconst (q := 822) (v := nI 2) C dL_law_821 (by decide) rfl ?_
  refine l_iadd (q := 823) C dL_law_822 rfl ?_
  refine l_sld (q := 824) C (by omega) hL dL_law_823 rfl ?_
  refine l_aload_n (q := 825) C dL_law_824 rfl 0 rfl rfl ?_
  refine l_iload_n (q := 826) C dL_law_825 rfl 3 rfl rfl ?_
  refine l_iconst (q := 827) (v := nI 3) C dL_law_826 (by decide) rfl ?_
  refine l_iadd (q := 828) C dL_law_827 rfl ?_
  refine l_sld (q := 829) C (by omega) hL dL_law_828 rfl ?_
  refine l_aload_n (q := 830) C dL_law_829 rfl 0 rfl rfl ?_
  refine l_iload_n (q := 831) C dL_law_830 rfl 3 rfl rfl ?_
  refine l_iconst (q := 832) (v := nI 4) C dL_law_831 (by decide) rfl ?_
  refine l_iadd (q := 833) C dL_law_832 rfl ?_
  refine l_sld (q := 834) C (by omega) hL dL_law_833 rfl ?_
  refine l_N (q := 837) (As := [.int (xs (i + 1)), .int (xs (i + 2)), .int (xs (i + 3)), .int (xs (i + 4))]) (rest := [.int r]) C (c_X8_pairs C.2.2.1 okn (xs (i + 1)) (xs (i + 2)) (xs (i + 3)) (xs (i + 4))) xs_X8_pairs tim_X8_pairs tsel_X8_pairs tml_L_107 (by decide) rfl rfl (Nat.le_of_ble_eq_true rfl) dL_law_834 rfl (fun r2 N1 U1 hn => ?_)
  have J := jrd ok h hp hn ((s_pairs ok.1 h (xs (i + 1)) (xs (i + 2)) (xs (i + 3)) (xs (i + 4))).trans (e_pairs N (xs (i + 1)) (xs (i + 2)) (xs (i + 3)) (xs (i + 4))))
  exact l_icmp_eq (tgt := 1168) C dL_law_837 (by decide) J.1 (K P1 T1 N1 U1 J.2.1 J.2.2)
theorem law_k22 (C : LC p s m c D cI cZ ad bd b L xs) {i : Nat} (hi : i + 8 ≤ L) (hL : L < 2 ^ 31) (K : ∀ P T N U, okX P → rel P (cX N) → LW p l e s m below meth c D cI cZ ad bd b Q 1168 [(0, .ref b), (1, .ref (ad 0)), (2, .ref (bd 0)), (3, .int (nI i))] [] P T N U) {P T N U : St} (ok : okX P) (h : rel P (cX N)) : LW p l e s m below meth c D cI cZ ad bd b Q 842 [(0, .ref b), (1, .ref (ad 0)), (2, .ref (bd 0)), (3, .int (nI i))] [] P T N U := by
  have okn := okN_rel h ok
  refine l_aload_n (q := 843) C dL_law_842 rfl 1 rfl rfl ?_
  refine l_aload_n (q := 844) C dL_law_843 rfl 0 rfl rfl ?_
  refine l_iload_n (q := 845) C dL_law_844 rfl 3 rfl rfl ?_
  refine l_iconst (q := 846) (v := nI 1) C dL_law_845 (by decide) rfl ?_
  refine l_iadd (q := 847) C dL_law_846 rfl ?_
  refine l_sld (q := 848) C (by omega) hL dL_law_847 rfl ?_
  refine l_aload_n (q := 849) C dL_law_848 rfl 0 rfl rfl ?_
  refine l_iload_n (q := 850) C dL_law_849 rfl 3 rfl rfl ?_
  refine l_iconst (q := 851) (v := nI 2) C dL_law_850 (by decide) rfl ?_
  refine l_iadd (q := 852) C dL_law_851 rfl ?_
  refine l_sld (q := 853) C (by omega) hL dL_law_852 rfl ?_
  refine l_aload_n (q := 854) C dL_law_853 rfl 0 rfl rfl ?_
  refine l_iload_n (q := 855) C dL_law_854 rfl 3 rfl rfl ?_
  refine l_iconst (q := 856) (v := nI 3) C dL_law_855 (by decide) rfl ?_
  refine l_iadd (q := 857) C dL_law_856 rfl ?_
  refine l_sld (q := 858) C (by omega) hL dL_law_857 rfl ?_
  refine l_aload_n (q := 859) C dL_law_858 rfl 0 rfl rfl ?_
  refine l_iload_n (q := 860) C dL_law_859 rfl 3 rfl rfl ?_
  refine l_iconst (q := 861) (v := nI 4) C dL_law_860 (by decide) rfl ?_
  refine l_iadd (q := 862) C dL_law_861 rfl ?_
  refine l_sld (q := 863) C (by omega) hL dL_law_862 rfl ?_
  refine l_aload_n (q := 864) C dL_law_863 rfl 0 rfl rfl ?_
  refine l_iload_n (q := 865) C dL_law_864 rfl 3 rfl rfl ?_
  refine l_iconst (q := 866) (v := nI 5) C dL_law_865 (by decide) rfl ?_
  refine l_iadd (q := 867) C dL_law_866 rfl ?_
  refine l_sld (q := 868) C (by omega) hL dL_law_867 rfl ?_
  refine l_aload_n (q := 869) C dL_law_868 rfl 0 rfl rfl ?_
  refine l_iload_n (q := 870) C dL_law_869 rfl 3 rfl rfl ?_
  refine l_bipush (q := 872) (v := nI 6) C dL_law_870 (by decide) rfl ?_
  refine l_iadd (q := 873) C dL_law_872 rfl ?_
  refine l_sld (q := 874) C (by omega) hL dL_law_873 rfl ?_
  refine l_aload_n (q := 875) C dL_law_874 rfl 0 rfl rfl ?_
  refine l_iload_n (q := 876) C dL_law_875 rfl 3 rfl rfl ?_
  refine l_bipush (q := 878) (v := nI 7) C dL_law_876 (by decide) rfl ?_
  refine l_iadd (q := 879) C dL_law_878 rfl ?_
  refine l_sld (q := 880) C (by omega) hL dL_law_879 rfl ?_
  refine l_X (q := 883) (As := [.int (xs (i + 1)), .int (xs (i + 2)), .int (xs (i + 3)), .int (xs (i + 4)), .int (xs (i + 5)), .int (xs (i + 6)), .int (xs (i + 7))]) (rest := []) C (c_X7_excess C.2.1 ok (xs (i + 1)) (xs (i + 2)) (xs (i + 3)) (xs (i + 4)) (xs (i + 5)) (xs (i + 6)) (xs (i + 7))) xs_X7_excess tim_X7_excess tsel_X7_excess tml_L_108 (by decide) rfl rfl (Nat.le_of_ble_eq_true rfl) dL_law_880 rfl (fun r P1 T1 hp => ?_)
  refine l_aload_n (q := 884) C dL_law_883 rfl 2 rfl rfl ?_
  refine l_aload_n (q := 885) C dL_law_884 rfl 0 rfl rfl ?_
  refine l_iload_n (q := 886) C dL_law_885 rfl 3 rfl rfl ?_
  refine l_iconst (q := 887) (v := nI 1) C dL_law_886 (by decide) rfl ?_
  refine l_iadd (q := 888) C dL_law_887 rfl ?_
  refine l_sld (q := 889) C (by omega) hL dL_law_888 rfl ?_
  refine l_aload_n (q := 890) C dL_law_889 rfl 0 rfl rfl ?_
  refine l_iload_n (q := 891) C dL_law_890 rfl 3 rfl rfl ?_
  refine l_iconst (q := 892) (v := nI 2) C dL_law_891 (by decide) rfl ?_
  refine l_iadd (q := 893) C dL_law_892 rfl ?_
  refine l_sld (q := 894) C (by omega) hL dL_law_893 rfl ?_
  refine l_aload_n (q := 895) C dL_law_894 rfl 0 rfl rfl ?_
  refine l_iload_n (q := 896) C dL_law_895 rfl 3 rfl rfl ?_
  refine l_iconst (q := 897) (v := nI 3) C dL_law_896 (by decide) rfl ?_
  refine l_iadd (q := 898) C dL_law_897 rfl ?_
  refine l_sld (q := 899) C (by omega) hL dL_law_898 rfl ?_
  refine l_aload_n (q := 900) C dL_law_899 rfl 0 rfl rfl ?_
  refine l_iload_n (q := 901) C dL_law_900 rfl 3 rfl rfl ?_
  refine l_iconst (q := 902) (v := nI 4) C dL_law_901 (by decide) rfl ?_
  refine l_iadd (q := 903) C dL_law_902 rfl ?_
  refine l_sld (q := 904) C (by omega) hL dL_law_903 rfl ?_
  refine l_aload_n (q := 905) C dL_law_904 rfl 0 rfl rfl ?_
  refine l_iload_n (q := 906) C dL_law_905 rfl 3 rfl rfl ?_
  refine l_iconst (q := 907) (v := nI 5) C dL_law_906 (by decide) rfl ?_
  refine l_iadd (q := 908) C dL_law_907 rfl ?_
  refine l_sld (q := 909) C (by omega) hL dL_law_908 rfl ?_
  refine l_aload_n (q := 910) C dL_law_909 rfl 0 rfl rfl ?_
  refine l_iload_n (q := 911) C dL_law_910 rfl 3 rfl rfl ?_
  refine l_bipush (q := 913) (v := nI 6) C dL_law_911 (by decide) rfl ?_
  refine l_iadd (q := 914) C dL_law_913 rfl ?_
  refine l_sld (q := 915) C (by omega) hL dL_law_914 rfl ?_
  refine l_aload_n (q := 916) C dL_law_915 rfl 0 rfl rfl ?_
  refine l_iload_n (q := 917) C dL_law_916 rfl 3 rfl rfl ?_
  refine l_bipush (q := 919) (v := nI 7) C dL_law_917 (by decide) rfl ?_
  refine l_iadd (q := 920) C dL_law_919 rfl ?_
  refine l_sld (q := 921) C (by omega) hL dL_law_920 rfl ?_
  refine l_N (q := 924) (As := [.int (xs (i + 1)), .int (xs (i + 2)), .int (xs (i + 3)), .int (xs (i + 4)), .int (xs (i + 5)), .int (xs (i + 6)), .int (xs (i + 7))]) (rest := [.int r]) C (c_X8_excess C.2.2.1 okn (xs (i + 1)) (xs (i + 2)) (xs (i + 3)) (xs (i + 4)) (xs (i + 5)) (xs (i + 6)) (xs (i + 7))) xs_X8_excess tim_X8_excess tsel_X8_excess tml_L_112 (by decide) rfl rfl (Nat.le_of_ble_eq_true rfl) dL_law_921 rfl (fun r2 N1 U1 hn => ?_)
  have J := jrd ok h ⟨hp.1, hp.2.1⟩ ⟨hn.1, hn.2.1⟩ ((s_exc ok.1 h (xs (i + 1)) (xs (i + 2)) (xs (i + 3)) (xs (i + 4)) (xs (i + 5)) (xs (i + 6)) (xs (i + 7))).trans (e_exc N (xs (i + 1)) (xs (i + 2)) (xs (i + 3)) (xs (i + 4)) (xs (i + 5)) (xs (i + 6)) (xs (i + 7))))
  exact l_icmp_eq (tgt := 1168) C dL_law_924 (by decide) J.1 (K P1 T1 N1 U1 J.2.1 J.2.2)
theorem law_k23 (C : LC p s m c D cI cZ ad bd b L xs) {i : Nat} (hi : i + 8 ≤ L) (hL : L < 2 ^ 31) (K : ∀ P T N U, okX P → rel P (cX N) → LW p l e s m below meth c D cI cZ ad bd b Q 1168 [(0, .ref b), (1, .ref (ad 0)), (2, .ref (bd 0)), (3, .int (nI i))] [] P T N U) {P T N U : St} (ok : okX P) (h : rel P (cX N)) : LW p l e s m below meth c D cI cZ ad bd b Q 929 [(0, .ref b), (1, .ref (ad 0)), (2, .ref (bd 0)), (3, .int (nI i))] [] P T N U := by
  have okn := okN_rel h ok
  refine l_aload_n (q := 930) C dL_law_929 rfl 1 rfl rfl ?_
  refine l_aload_n (q := 931) C dL_law_930 rfl 0 rfl rfl ?_
  refine l_iload_n (q := 932) C dL_law_931 rfl 3 rfl rfl ?_
  refine l_iconst (q := 933) (v := nI 1) C dL_law_932 (by decide) rfl ?_
  refine l_iadd (q := 934) C dL_law_933 rfl ?_
  refine l_sld (q := 935) C (by omega) hL dL_law_934 rfl ?_
  refine l_aload_n (q := 936) C dL_law_935 rfl 0 rfl rfl ?_
  refine l_iload_n (q := 937) C dL_law_936 rfl 3 rfl rfl ?_
  refine l_iconst (q := 938) (v := nI 2) C dL_law_937 (by decide) rfl ?_
  refine l_iadd (q := 939) C dL_law_938 rfl ?_
  refine l_sld (q := 940) C (by omega) hL dL_law_939 rfl ?_
  refine l_aload_n (q := 941) C dL_law_940 rfl 0 rfl rfl ?_
  refine l_iload_n (q := 942) C dL_law_941 rfl 3 rfl rfl ?_
  refine l_iconst (q := 943) (v := nI 3) C dL_law_942 (by decide) rfl ?_
  refine l_iadd (q := 944) C dL_law_943 rfl ?_
  refine l_sld (q := 945) C (by omega) hL dL_law_944 rfl ?_
  refine l_aload_n (q := 946) C dL_law_945 rfl 0 rfl rfl ?_
  refine l_iload_n (q := 947) C dL_law_946 rfl 3 rfl rfl ?_
  refine l_iconst (q := 948) (v := nI 4) C dL_law_947 (by decide) rfl ?_
  refine l_iadd (q := 949) C dL_law_948 rfl ?_
  refine l_sld (q := 950) C (by omega) hL dL_law_949 rfl ?_
  refine l_aload_n (q := 951) C dL_law_950 rfl 0 rfl rfl ?_
  refine l_iload_n (q := 952) C dL_law_951 rfl 3 rfl rfl ?_
  refine l_iconst (q := 953) (v := nI 5) C dL_law_952 (by decide) rfl ?_
  refine l_iadd (q := 954) C dL_law_953 rfl ?_
  refine l_sld (q := 955) C (by omega) hL dL_law_954 rfl ?_
  refine l_aload_n (q := 956) C dL_law_955 rfl 0 rfl rfl ?_
  refine l_iload_n (q := 957) C dL_law_956 rfl 3 rfl rfl ?_
  refine l_bipush (q := 959) (v := nI 6) C dL_law_957 (by decide) rfl ?_
  refine l_iadd (q := 960) C dL_law_959 rfl ?_
  refine l_sld (q := 961) C (by omega) hL dL_law_960 rfl ?_
  refine l_aload_n (q := 962) C dL_law_961 rfl 0 rfl rfl ?_
  refine l_iload_n (q := 963) C dL_law_962 rfl 3 rfl rfl ?_
  refine l_bipush (q := 965) (v := nI 7) C dL_law_963 (by decide) rfl ?_
  refine l_iadd (q := 966) C dL_law_965 rfl ?_
  refine l_sld (q := 967) C (by omega) hL dL_law_966 rfl ?_
  refine l_X (q := 970) (As := [.int (xs (i + 1)), .int (xs (i + 2)), .int (xs (i + 3)), .int (xs (i + 4)), .int (xs (i + 5)), .int (xs (i + 6)), .int (xs (i + 7))]) (rest := []) C (c_X7_joint C.2.1 ok (xs (i + 1)) (xs (i + 2)) (xs (i + 3)) (xs (i + 4)) (xs (i + 5)) (xs (i + 6)) (xs (i + 7))) xs_X7_joint tim_X7_joint tsel_X7_joint tml_L_113 (by decide) rfl rfl (Nat.le_of_ble_eq_true rfl) dL_law_967 rfl (fun r P1 T1 hp => ?_)
  refine l_aload_n (q := 971) C dL_law_970 rfl 2 rfl rfl ?_
  refine l_aload_n (q := 972) C dL_law_971 rfl 0 rfl rfl ?_
  refine l_iload_n (q := 973) C dL_law_972 rfl 3 rfl rfl ?_
  refine l_iconst (q := 974) (v := nI 1) C dL_law_973 (by decide) rfl ?_
  refine l_iadd (q := 975) C dL_law_974 rfl ?_
  refine l_sld (q := 976) C (by omega) hL dL_law_975 rfl ?_
  refine l_aload_n (q := 977) C dL_law_976 rfl 0 rfl rfl ?_
  refine l_iload_n (q := 978) C dL_law_977 rfl 3 rfl rfl ?_
  refine l_iconst (q := 979) (v := nI 2) C dL_law_978 (by decide) rfl ?_
  refine l_iadd (q := 980) C dL_law_979 rfl ?_
  refine l_sld (q := 981) C (by omega) hL dL_law_980 rfl ?_
  refine l_aload_n (q := 982) C dL_law_981 rfl 0 rfl rfl ?_
  refine l_iload_n (q := 983) C dL_law_982 rfl 3 rfl rfl ?_
  refine l_iconst (q := 984) (v := nI 3) C dL_law_983 (by decide) rfl ?_
  refine l_iadd (q := 985) C dL_law_984 rfl ?_
  refine l_sld (q := 986) C (by omega) hL dL_law_985 rfl ?_
  refine l_aload_n (q := 987) C dL_law_986 rfl 0 rfl rfl ?_
  refine l_iload_n (q := 988) C dL_law_987 rfl 3 rfl rfl ?_
  refine l_iconst (q := 989) (v := nI 4) C dL_law_988 (by decide) rfl ?_
  refine l_iadd (q := 990) C dL_law_989 rfl ?_
  refine l_sld (q := 991) C (by omega) hL dL_law_990 rfl ?_
  refine l_aload_n (q := 992) C dL_law_991 rfl 0 rfl rfl ?_
  refine l_iload_n (q := 993) C dL_law_992 rfl 3 rfl rfl ?_
  refine l_iconst (q := 994) (v := nI 5) C dL_law_993 (by decide) rfl ?_
  refine l_iadd (q := 995) C dL_law_994 rfl ?_
  refine l_sld (q := 996) C (by omega) hL dL_law_995 rfl ?_
  refine l_aload_n (q := 997) C dL_law_996 rfl 0 rfl rfl ?_
  refine l_iload_n (q := 998) C dL_law_997 rfl 3 rfl rfl ?_
  refine l_bipush (q := 1000) (v := nI 6) C dL_law_998 (by decide) rfl ?_
  refine l_iadd (q := 1001) C dL_law_1000 rfl ?_
  refine l_sld (q := 1002) C (by omega) hL dL_law_1001 rfl ?_
  refine l_aload_n (q := 1003) C dL_law_1002 rfl 0 rfl rfl ?_
  refine l_iload_n (q := 1004) C dL_law_1003 rfl 3 rfl rfl ?_
  refine l_bipush (q := 1006) (v := nI 7) C dL_law_1004 (by decide) rfl ?_
  refine l_iadd (q := 1007) C dL_law_1006 rfl ?_
  refine l_sld (q := 1008) C (by omega) hL dL_law_1007 rfl ?_
  refine l_N (q := 1011) (As := [.int (xs (i + 1)), .int (xs (i + 2)), .int (xs (i + 3)), .int (xs (i + 4)), .int (xs (i + 5)), .int (xs (i + 6)), .int (xs (i + 7))]) (rest := [.int r]) C (c_X8_joint C.2.2.1 okn (xs (i + 1)) (xs (i + 2)) (xs (i + 3)) (xs (i + 4)) (xs (i + 5)) (xs (i + 6)) (xs (i + 7))) xs_X8_joint tim_X8_joint tsel_X8_joint tml_L_116 (by decide) rfl rfl (Nat.le_of_ble_eq_true rfl) dL_law_1008 rfl (fun r2 N1 U1 hn => ?_)
  have J := j_joint ok h hp hn
  exact l_icmp_eq (tgt := 1168) C dL_law_1011 (by decide) J.1 (K P1 T1 N1 U1 J.2.1 J.2.2)
theorem law_k24 (C : LC p s m c D cI cZ ad bd b L xs) {i : Nat} (hi : i + 8 ≤ L) (hL : L < 2 ^ 31) (K : ∀ P T N U, okX P → rel P (cX N) → LW p l e s m below meth c D cI cZ ad bd b Q 1168 [(0, .ref b), (1, .ref (ad 0)), (2, .ref (bd 0)), (3, .int (nI i))] [] P T N U) {P T N U : St} (ok : okX P) (h : rel P (cX N)) : LW p l e s m below meth c D cI cZ ad bd b Q 1016 [(0, .ref b), (1, .ref (ad 0)), (2, .ref (bd 0)), (3, .int (nI i))] [] P T N U := by
  have okn := okN_rel h ok
  refine l_aload_n (q := 1017) C dL_law_1016 rfl 1 rfl rfl ?_
  refine l_aload_n (q := 1018) C dL_law_1017 rfl 0 rfl rfl ?_
  refine l_iload_n (q := 1019) C dL_law_1018 rfl 3 rfl rfl ?_
  refine l_iconst (q := 1020) (v := nI 1) C dL_law_1019 (by decide) rfl ?_
  refine l_iadd (q := 1021) C dL_law_1020 rfl ?_
  refine l_sld (q := 1022) C (by omega) hL dL_law_1021 rfl ?_
  refine l_aload_n (q := 1023) C dL_law_1022 rfl 0 rfl rfl ?_
  refine l_iload_n (q := 1024) C dL_law_1023 rfl 3 rfl rfl ?_
  refine l_iconst (q := 1025) (v := nI 2) C dL_law_1024 (by decide) rfl ?_
  refine l_iadd (q := 1026) C dL_law_1025 rfl ?_
  refine l_sld (q := 1027) C (by omega) hL dL_law_1026 rfl ?_
  refine l_aload_n (q := 1028) C dL_law_1027 rfl 0 rfl rfl ?_
  refine l_iload_n (q := 1029) C dL_law_1028 rfl 3 rfl rfl ?_
  refine l_iconst (q := 1030) (v := nI 3) C dL_law_1029 (by decide) rfl ?_
  refine l_iadd (q := 1031) C dL_law_1030 rfl ?_
  refine l_sld (q := 1032) C (by omega) hL dL_law_1031 rfl ?_
  refine l_X (q := 1035) (As := [.int (xs (i + 1)), .int (xs (i + 2)), .int (xs (i + 3))]) (rest := []) C (c_X7_odds C.2.1 ok (xs (i + 1)) (xs (i + 2)) (xs (i + 3))) xs_X7_odds tim_X7_odds tsel_X7_odds tml_L_117 (by decide) rfl rfl (Nat.le_of_ble_eq_true rfl) dL_law_1032 rfl (fun r P1 T1 hp => ?_)
  refine l_aload_n (q := 1036) C dL_law_1035 rfl 2 rfl rfl ?_
  refine l_aload_n (q := 1037) C dL_law_1036 rfl 0 rfl rfl ?_
  refine l_iload_n (q := 1038) C dL_law_1037 rfl 3 rfl rfl ?_
  refine l_iconst (q := 1039) (v := nI 1) C dL_law_1038 (by decide) rfl ?_
  refine l_iadd (q := 1040) C dL_law_1039 rfl ?_
  refine l_sld (q := 1041) C (by omega) hL dL_law_1040 rfl ?_
  refine l_aload_n (q := 1042) C dL_law_1041 rfl 0 rfl rfl ?_
  refine l_iload_n (q := 1043) C dL_law_1042 rfl 3 rfl rfl ?_
  refine l_iconst (q := 1044) (v := nI 2) C dL_law_1043 (by decide) rfl ?_
  refine l_iadd (q := 1045) C dL_law_1044 rfl ?_
  refine l_sld (q := 1046) C (by omega) hL dL_law_1045 rfl ?_
  refine l_aload_n (q := 1047) C dL_law_1046 rfl 0 rfl rfl ?_
  refine l_iload_n (q := 1048) C dL_law_1047 rfl 3 rfl rfl ?_
  refine l_iconst (q := 1049) (v := nI 3) C dL_law_1048 (by decide) rfl ?_
  refine l_iadd (q := 1050) C dL_law_1049 rfl ?_
  refine l_sld (q := 1051) C (by omega) hL dL_law_1050 rfl ?_
  refine l_N (q := 1054) (As := [.int (xs (i + 1)), .int (xs (i + 2)), .int (xs (i + 3))]) (rest := [.int r]) C (c_X8_odds C.2.2.1 okn (xs (i + 1)) (xs (i + 2)) (xs (i + 3))) xs_X8_odds tim_X8_odds tsel_X8_odds tml_L_120 (by decide) rfl rfl (Nat.le_of_ble_eq_true rfl) dL_law_1051 rfl (fun r2 N1 U1 hn => ?_)
  have J := j_odds ok h hp hn
  exact l_icmp_eq (tgt := 1168) C dL_law_1054 (by decide) J.1 (K P1 T1 N1 U1 J.2.1 J.2.2)
theorem law_k25 (C : LC p s m c D cI cZ ad bd b L xs) {i : Nat} (hi : i + 8 ≤ L) (hL : L < 2 ^ 31) (K : ∀ P T N U, okX P → rel P (cX N) → LW p l e s m below meth c D cI cZ ad bd b Q 1168 [(0, .ref b), (1, .ref (ad 0)), (2, .ref (bd 0)), (3, .int (nI i))] [] P T N U) {P T N U : St} (ok : okX P) (h : rel P (cX N)) : LW p l e s m below meth c D cI cZ ad bd b Q 1059 [(0, .ref b), (1, .ref (ad 0)), (2, .ref (bd 0)), (3, .int (nI i))] [] P T N U := by
  have okn := okN_rel h ok
  refine l_aload_n (q := 1060) C dL_law_1059 rfl 1 rfl rfl ?_
  refine l_aload_n (q := 1061) C dL_law_1060 rfl 0 rfl rfl ?_
  refine l_iload_n (q := 1062) C dL_law_1061 rfl 3 rfl rfl ?_
  refine l_iconst (q := 1063) (v := nI 1) C dL_law_1062 (by decide) rfl ?_
  refine l_iadd (q := 1064) C dL_law_1063 rfl ?_
  refine l_sld (q := 1065) C (by omega) hL dL_law_1064 rfl ?_
  refine l_aload_n (q := 1066) C dL_law_1065 rfl 0 rfl rfl ?_
  refine l_iload_n (q := 1067) C dL_law_1066 rfl 3 rfl rfl ?_
  refine l_iconst (q := 1068) (v := nI 2) C dL_law_1067 (by decide) rfl ?_
  refine l_iadd (q := 1069) C dL_law_1068 rfl ?_
  refine l_sld (q := 1070) C (by omega) hL dL_law_1069 rfl ?_
  refine l_aload_n (q := 1071) C dL_law_1070 rfl 0 rfl rfl ?_
  refine l_iload_n (q := 1072) C dL_law_1071 rfl 3 rfl rfl ?_
  refine l_iconst (q := 1073) (v := nI 3) C dL_law_1072 (by decide) rfl ?_
  refine l_iadd (q := 1074) C dL_law_1073 rfl ?_
  refine l_sld (q := 1075) C (by omega) hL dL_law_1074 rfl ?_
  refine l_aload_n (q := 1076) C dL_law_1075 rfl 0 rfl rfl ?_
  refine l_iload_n (q := 1077) C dL_law_1076 rfl 3 rfl rfl ?_
  refine l_iconst (q := 1078) (v := nI 4) C dL_law_1077 (by decide) rfl ?_
  refine l_iadd (q := 1079) C dL_law_1078 rfl ?_
  refine l_sld (q := 1080) C (by omega) hL dL_law_1079 rfl ?_
  refine l_X (q := 1083) (As := [.int (xs (i + 1)), .int (xs (i + 2)), .int (xs (i + 3)), .int (xs (i + 4))]) (rest := []) C (c_X7_safe C.2.1 ok (xs (i + 1)) (xs (i + 2)) (xs (i + 3)) (xs (i + 4))) xs_X7_safe tim_X7_safe tsel_X7_safe tml_L_121 (by decide) rfl rfl (Nat.le_of_ble_eq_true rfl) dL_law_1080 rfl (fun r P1 T1 hp => ?_)
  refine l_aload_n (q := 1084) C dL_law_1083 rfl 2 rfl rfl ?_
  refine l_aload_n (q := 1085) C dL_law_1084 rfl 0 rfl rfl ?_
  refine l_iload_n (q := 1086) C dL_law_1085 rfl 3 rfl rfl ?_
  refine l_iconst (q := 1087) (v := nI 1) C dL_law_1086 (by decide) rfl ?_
  refine l_iadd (q := 1088) C dL_law_1087 rfl ?_
  refine l_sld (q := 1089) C (by omega) hL dL_law_1088 rfl ?_
  refine l_aload_n (q := 1090) C dL_law_1089 rfl 0 rfl rfl ?_
  refine l_iload_n (q := 1091) C dL_law_1090 rfl 3 rfl rfl ?_
  refine l_iconst (q := 1092) (v := nI 2) C dL_law_1091 (by decide) rfl ?_
  refine l_iadd (q := 1093) C dL_law_1092 rfl ?_
  refine l_sld (q := 1094) C (by omega) hL dL_law_1093 rfl ?_
  refine l_aload_n (q := 1095) C dL_law_1094 rfl 0 rfl rfl ?_
  refine l_iload_n (q := 1096) C dL_law_1095 rfl 3 rfl rfl ?_
  refine l_iconst (q := 1097) (v := nI 3) C dL_law_1096 (by decide) rfl ?_
  refine l_iadd (q := 1098) C dL_law_1097 rfl ?_
  refine l_sld (q := 1099) C (by omega) hL dL_law_1098 rfl ?_
  refine l_aload_n (q := 1100) C dL_law_1099 rfl 0 rfl rfl ?_
  refine l_iload_n (q := 1101) C dL_law_1100 rfl 3 rfl rfl ?_
  refine l_iconst (q := 1102) (v := nI 4) C dL_law_1101 (by decide) rfl ?_
  refine l_iadd (q := 1103) C dL_law_1102 rfl ?_
  refine l_sld (q := 1104) C (by omega) hL dL_law_1103 rfl ?_
  refine l_N (q := 1107) (As := [.int (xs (i + 1)), .int (xs (i + 2)), .int (xs (i + 3)), .int (xs (i + 4))]) (rest := [.int r]) C (c_X8_safe C.2.2.1 okn (xs (i + 1)) (xs (i + 2)) (xs (i + 3)) (xs (i + 4))) xs_X8_safe tim_X8_safe tsel_X8_safe tml_L_124 (by decide) rfl rfl (Nat.le_of_ble_eq_true rfl) dL_law_1104 rfl (fun r2 N1 U1 hn => ?_)
  have J := j_safe ok h hp hn
  exact l_icmp_eq (tgt := 1168) C dL_law_1107 (by decide) J.1 (K P1 T1 N1 U1 J.2.1 J.2.2)
theorem law_k26 (C : LC p s m c D cI cZ ad bd b L xs) {i : Nat} (hi : i + 8 ≤ L) (hL : L < 2 ^ 31) (K : ∀ P T N U, okX P → rel P (cX N) → LW p l e s m below meth c D cI cZ ad bd b Q 1168 [(0, .ref b), (1, .ref (ad 0)), (2, .ref (bd 0)), (3, .int (nI i))] [] P T N U) {P T N U : St} (ok : okX P) (h : rel P (cX N)) : LW p l e s m below meth c D cI cZ ad bd b Q 1112 [(0, .ref b), (1, .ref (ad 0)), (2, .ref (bd 0)), (3, .int (nI i))] [] P T N U := by
  have okn := okN_rel h ok
  refine l_aload_n (q := 1113) C dL_law_1112 rfl 1 rfl rfl ?_
  refine l_aload_n (q := 1114) C dL_law_1113 rfl 0 rfl rfl ?_
  refine l_iload_n (q := 1115) C dL_law_1114 rfl 3 rfl rfl ?_
  refine l_iconst (q := 1116) (v := nI 1) C dL_law_1115 (by decide) rfl ?_
  refine l_iadd (q := 1117) C dL_law_1116 rfl ?_
  refine l_sld (q := 1118) C (by omega) hL dL_law_1117 rfl ?_
  refine l_aload_n (q := 1119) C dL_law_1118 rfl 0 rfl rfl ?_
  refine l_iload_n (q := 1120) C dL_law_1119 rfl 3 rfl rfl ?_
  refine l_iconst (q := 1121) (v := nI 2) C dL_law_1120 (by decide) rfl ?_
  refine l_iadd (q := 1122) C dL_law_1121 rfl ?_
  refine l_sld (q := 1123) C (by omega) hL dL_law_1122 rfl ?_
  refine l_X (q := 1126) (As := [.int (xs (i + 1)), .int (xs (i + 2))]) (rest := []) C (c_X7_back C.2.1 ok (xs (i + 1)) (xs (i + 2))) xs_X7_back tim_X7_back tsel_X7_back tml_L_125 (by decide) rfl rfl (Nat.le_of_ble_eq_true rfl) dL_law_1123 rfl (fun r P1 T1 hp => ?_)
  refine l_aload_n (q := 1127) C dL_law_1126 rfl 2 rfl rfl ?_
  refine l_aload_n (q := 1128) C dL_law_1127 rfl 0 rfl rfl ?_
  refine l_iload_n (q := 1129) C dL_law_1128 rfl 3 rfl rfl ?_
  refine l_iconst (q := 1130) (v := nI 1) C dL_law_1129 (by decide) rfl ?_
  refine l_iadd (q := 1131) C dL_law_1130 rfl ?_
  refine l_sld (q := 1132) C (by omega) hL dL_law_1131 rfl ?_
  refine l_aload_n (q := 1133) C dL_law_1132 rfl 0 rfl rfl ?_
  refine l_iload_n (q := 1134) C dL_law_1133 rfl 3 rfl rfl ?_
  refine l_iconst (q := 1135) (v := nI 2) C dL_law_1134 (by decide) rfl ?_
  refine l_iadd (q := 1136) C dL_law_1135 rfl ?_
  refine l_sld (q := 1137) C (by omega) hL dL_law_1136 rfl ?_
  refine l_N (q := 1140) (As := [.int (xs (i + 1)), .int (xs (i + 2))]) (rest := [.int r]) C (c_X8_back C.2.2.1 okn (xs (i + 1)) (xs (i + 2))) xs_X8_back tim_X8_back tsel_X8_back tml_L_128 (by decide) rfl rfl (Nat.le_of_ble_eq_true rfl) dL_law_1137 rfl (fun r2 N1 U1 hn => ?_)
  have J := jrd ok h hp hn (s_back ok h (xs (i + 1)) (xs (i + 2)))
  exact l_icmp_eq (tgt := 1168) C dL_law_1140 (by decide) J.1 (K P1 T1 N1 U1 J.2.1 J.2.2)
theorem law_k27 (C : LC p s m c D cI cZ ad bd b L xs) {i : Nat} (hi : i + 8 ≤ L) (hL : L < 2 ^ 31) (K : ∀ P T N U, okX P → rel P (cX N) → LW p l e s m below meth c D cI cZ ad bd b Q 1168 [(0, .ref b), (1, .ref (ad 0)), (2, .ref (bd 0)), (3, .int (nI i))] [] P T N U) {P T N U : St} (ok : okX P) (h : rel P (cX N)) : LW p l e s m below meth c D cI cZ ad bd b Q 1145 [(0, .ref b), (1, .ref (ad 0)), (2, .ref (bd 0)), (3, .int (nI i))] [] P T N U := by
  have okn := okN_rel h ok
  refine l_aload_n (q := 1146) C dL_law_1145 rfl 1 rfl rfl ?_
  refine l_aload_n (q := 1147) C dL_law_1146 rfl 0 rfl rfl ?_
  refine l_iload_n (q := 1148) C dL_law_1147 rfl 3 rfl rfl ?_
  refine l_iconst (q := 1149) (v := nI 1) C dL_law_1148 (by decide) rfl ?_
  refine l_iadd (q := 1150) C dL_law_1149 rfl ?_
  refine l_sld (q := 1151) C (by omega) hL dL_law_1150 rfl ?_
  refine l_X (q := 1154) (As := [.int (xs (i + 1))]) (rest := []) C (c_X7_count C.2.1 ok (xs (i + 1))) xs_X7_count tim_X7_count tsel_X7_count tml_L_129 (by decide) rfl rfl (Nat.le_of_ble_eq_true rfl) dL_law_1151 rfl (fun r P1 T1 hp => ?_)
  refine l_aload_n (q := 1155) C dL_law_1154 rfl 2 rfl rfl ?_
  refine l_aload_n (q := 1156) C dL_law_1155 rfl 0 rfl rfl ?_
  refine l_iload_n (q := 1157) C dL_law_1156 rfl 3 rfl rfl ?_
  refine l_iconst (q := 1158) (v := nI 1) C dL_law_1157 (by decide) rfl ?_
  refine l_iadd (q := 1159) C dL_law_1158 rfl ?_
  refine l_sld (q := 1160) C (by omega) hL dL_law_1159 rfl ?_
  refine l_N (q := 1163) (As := [.int (xs (i + 1))]) (rest := [.int r]) C (c_X8_count C.2.2.1 okn (xs (i + 1))) xs_X8_count tim_X8_count tsel_X8_count tml_L_132 (by decide) rfl rfl (Nat.le_of_ble_eq_true rfl) dL_law_1160 rfl (fun r2 N1 U1 hn => ?_)
  have J := jrd ok h hp hn ((s_count ok.1 h (xs (i + 1))).trans (e_count N (xs (i + 1))))
  exact l_icmp_eq (tgt := 1168) C dL_law_1163 (by decide) J.1 (K P1 T1 N1 U1 J.2.1 J.2.2)
end LAWCASES
