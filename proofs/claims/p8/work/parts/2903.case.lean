theorem dL_law_818 : decode cL_law 818 = .ok (.aload_n 1, 1) := dc1_43 (by decide +kernel)
theorem dL_law_819 : decode cL_law 819 = .ok (.aload_n 0, 1) := dc1_42 (by decide +kernel)
theorem dL_law_820 : decode cL_law 820 = .ok (.iload_n 3, 1) := dc1_29 (by decide +kernel)
theorem dL_law_821 : decode cL_law 821 = .ok (.iconst 1, 1) := dc1_4 (by decide +kernel)
theorem dL_law_822 : decode cL_law 822 = .ok (.iadd, 1) := dc1_96 (by decide +kernel)
theorem dL_law_823 : decode cL_law 823 = .ok (.iaload, 1) := dc1_46 (by decide +kernel)
theorem dL_law_824 : decode cL_law 824 = .ok (.invokevirtual 109, 3) := dcw_182 (by decide +kernel)
theorem dL_law_827 : decode cL_law 827 = .ok (.pop, 1) := dc1_87 (by decide +kernel)
theorem dL_law_828 : decode cL_law 828 = .ok (.aload_n 2, 1) := dc1_44 (by decide +kernel)
theorem dL_law_829 : decode cL_law 829 = .ok (.aload_n 0, 1) := dc1_42 (by decide +kernel)
theorem dL_law_830 : decode cL_law 830 = .ok (.iload_n 3, 1) := dc1_29 (by decide +kernel)
theorem dL_law_831 : decode cL_law 831 = .ok (.iconst 1, 1) := dc1_4 (by decide +kernel)
theorem dL_law_832 : decode cL_law 832 = .ok (.iadd, 1) := dc1_96 (by decide +kernel)
theorem dL_law_833 : decode cL_law 833 = .ok (.iaload, 1) := dc1_46 (by decide +kernel)
theorem dL_law_834 : decode cL_law 834 = .ok (.invokevirtual 112, 3) := dcw_182 (by decide +kernel)
theorem dL_law_837 : decode cL_law 837 = .ok (.pop, 1) := dc1_87 (by decide +kernel)
theorem dL_law_838 : decode cL_law 838 = .ok (.goto 651, 3) := dcs_167 (n := 651) (by decide +kernel)
theorem dL_law_841 : decode cL_law 841 = .ok (.aload_n 1, 1) := dc1_43 (by decide +kernel)
theorem dL_law_842 : decode cL_law 842 = .ok (.aload_n 0, 1) := dc1_42 (by decide +kernel)
theorem dL_law_843 : decode cL_law 843 = .ok (.iload_n 3, 1) := dc1_29 (by decide +kernel)
theorem dL_law_844 : decode cL_law 844 = .ok (.iconst 1, 1) := dc1_4 (by decide +kernel)
theorem dL_law_845 : decode cL_law 845 = .ok (.iadd, 1) := dc1_96 (by decide +kernel)
theorem dL_law_846 : decode cL_law 846 = .ok (.iaload, 1) := dc1_46 (by decide +kernel)
theorem dL_law_847 : decode cL_law 847 = .ok (.invokevirtual 113, 3) := dcw_182 (by decide +kernel)
theorem dL_law_850 : decode cL_law 850 = .ok (.pop, 1) := dc1_87 (by decide +kernel)
theorem dL_law_851 : decode cL_law 851 = .ok (.aload_n 2, 1) := dc1_44 (by decide +kernel)
theorem dL_law_852 : decode cL_law 852 = .ok (.aload_n 0, 1) := dc1_42 (by decide +kernel)
theorem dL_law_853 : decode cL_law 853 = .ok (.iload_n 3, 1) := dc1_29 (by decide +kernel)
theorem dL_law_854 : decode cL_law 854 = .ok (.iconst 1, 1) := dc1_4 (by decide +kernel)
theorem dL_law_855 : decode cL_law 855 = .ok (.iadd, 1) := dc1_96 (by decide +kernel)
theorem dL_law_856 : decode cL_law 856 = .ok (.iaload, 1) := dc1_46 (by decide +kernel)
theorem dL_law_857 : decode cL_law 857 = .ok (.invokevirtual 116, 3) := dcw_182 (by decide +kernel)
theorem dL_law_860 : decode cL_law 860 = .ok (.pop, 1) := dc1_87 (by decide +kernel)
theorem dL_law_861 : decode cL_law 861 = .ok (.goto 628, 3) := dcs_167 (n := 628) (by decide +kernel)
theorem dL_law_864 : decode cL_law 864 = .ok (.aload_n 1, 1) := dc1_43 (by decide +kernel)
theorem dL_law_865 : decode cL_law 865 = .ok (.aload_n 0, 1) := dc1_42 (by decide +kernel)
theorem dL_law_866 : decode cL_law 866 = .ok (.iload_n 3, 1) := dc1_29 (by decide +kernel)
theorem dL_law_867 : decode cL_law 867 = .ok (.iconst 1, 1) := dc1_4 (by decide +kernel)
theorem dL_law_868 : decode cL_law 868 = .ok (.iadd, 1) := dc1_96 (by decide +kernel)
theorem dL_law_869 : decode cL_law 869 = .ok (.iaload, 1) := dc1_46 (by decide +kernel)
theorem dL_law_870 : decode cL_law 870 = .ok (.aload_n 0, 1) := dc1_42 (by decide +kernel)
theorem dL_law_871 : decode cL_law 871 = .ok (.iload_n 3, 1) := dc1_29 (by decide +kernel)
theorem dL_law_872 : decode cL_law 872 = .ok (.iconst 2, 1) := dc1_5 (by decide +kernel)
theorem dL_law_873 : decode cL_law 873 = .ok (.iadd, 1) := dc1_96 (by decide +kernel)
theorem dL_law_874 : decode cL_law 874 = .ok (.iaload, 1) := dc1_46 (by decide +kernel)
theorem dL_law_875 : decode cL_law 875 = .ok (.invokevirtual 117, 3) := dcw_182 (by decide +kernel)
theorem dL_law_878 : decode cL_law 878 = .ok (.pop, 1) := dc1_87 (by decide +kernel)
theorem dL_law_879 : decode cL_law 879 = .ok (.aload_n 2, 1) := dc1_44 (by decide +kernel)
theorem dL_law_880 : decode cL_law 880 = .ok (.aload_n 0, 1) := dc1_42 (by decide +kernel)
theorem dL_law_881 : decode cL_law 881 = .ok (.iload_n 3, 1) := dc1_29 (by decide +kernel)
theorem dL_law_882 : decode cL_law 882 = .ok (.iconst 1, 1) := dc1_4 (by decide +kernel)
theorem dL_law_883 : decode cL_law 883 = .ok (.iadd, 1) := dc1_96 (by decide +kernel)
theorem dL_law_884 : decode cL_law 884 = .ok (.iaload, 1) := dc1_46 (by decide +kernel)
theorem dL_law_885 : decode cL_law 885 = .ok (.aload_n 0, 1) := dc1_42 (by decide +kernel)
theorem dL_law_886 : decode cL_law 886 = .ok (.iload_n 3, 1) := dc1_29 (by decide +kernel)
theorem dL_law_887 : decode cL_law 887 = .ok (.iconst 2, 1) := dc1_5 (by decide +kernel)
theorem dL_law_888 : decode cL_law 888 = .ok (.iadd, 1) := dc1_96 (by decide +kernel)
theorem dL_law_889 : decode cL_law 889 = .ok (.iaload, 1) := dc1_46 (by decide +kernel)
theorem dL_law_890 : decode cL_law 890 = .ok (.invokevirtual 120, 3) := dcw_182 (by decide +kernel)
theorem dL_law_893 : decode cL_law 893 = .ok (.pop, 1) := dc1_87 (by decide +kernel)
theorem dL_law_894 : decode cL_law 894 = .ok (.goto 595, 3) := dcs_167 (n := 595) (by decide +kernel)
theorem dL_law_897 : decode cL_law 897 = .ok (.aload_n 1, 1) := dc1_43 (by decide +kernel)
theorem dL_law_898 : decode cL_law 898 = .ok (.aload_n 0, 1) := dc1_42 (by decide +kernel)
theorem dL_law_899 : decode cL_law 899 = .ok (.iload_n 3, 1) := dc1_29 (by decide +kernel)
theorem dL_law_900 : decode cL_law 900 = .ok (.iconst 1, 1) := dc1_4 (by decide +kernel)
theorem dL_law_901 : decode cL_law 901 = .ok (.iadd, 1) := dc1_96 (by decide +kernel)
theorem dL_law_902 : decode cL_law 902 = .ok (.iaload, 1) := dc1_46 (by decide +kernel)
theorem dL_law_903 : decode cL_law 903 = .ok (.aload_n 0, 1) := dc1_42 (by decide +kernel)
theorem dL_law_904 : decode cL_law 904 = .ok (.iload_n 3, 1) := dc1_29 (by decide +kernel)
theorem dL_law_905 : decode cL_law 905 = .ok (.iconst 2, 1) := dc1_5 (by decide +kernel)
theorem dL_law_906 : decode cL_law 906 = .ok (.iadd, 1) := dc1_96 (by decide +kernel)
theorem dL_law_907 : decode cL_law 907 = .ok (.iaload, 1) := dc1_46 (by decide +kernel)
theorem dL_law_908 : decode cL_law 908 = .ok (.invokevirtual 121, 3) := dcw_182 (by decide +kernel)
theorem dL_law_911 : decode cL_law 911 = .ok (.pop, 1) := dc1_87 (by decide +kernel)
theorem dL_law_912 : decode cL_law 912 = .ok (.aload_n 2, 1) := dc1_44 (by decide +kernel)
theorem dL_law_913 : decode cL_law 913 = .ok (.aload_n 0, 1) := dc1_42 (by decide +kernel)
theorem dL_law_914 : decode cL_law 914 = .ok (.iload_n 3, 1) := dc1_29 (by decide +kernel)
theorem dL_law_915 : decode cL_law 915 = .ok (.iconst 1, 1) := dc1_4 (by decide +kernel)
theorem dL_law_916 : decode cL_law 916 = .ok (.iadd, 1) := dc1_96 (by decide +kernel)
theorem dL_law_917 : decode cL_law 917 = .ok (.iaload, 1) := dc1_46 (by decide +kernel)
theorem dL_law_918 : decode cL_law 918 = .ok (.aload_n 0, 1) := dc1_42 (by decide +kernel)
theorem dL_law_919 : decode cL_law 919 = .ok (.iload_n 3, 1) := dc1_29 (by decide +kernel)
theorem dL_law_920 : decode cL_law 920 = .ok (.iconst 2, 1) := dc1_5 (by decide +kernel)
theorem dL_law_921 : decode cL_law 921 = .ok (.iadd, 1) := dc1_96 (by decide +kernel)
theorem dL_law_922 : decode cL_law 922 = .ok (.iaload, 1) := dc1_46 (by decide +kernel)
theorem dL_law_923 : decode cL_law 923 = .ok (.invokevirtual 124, 3) := dcw_182 (by decide +kernel)
theorem dL_law_926 : decode cL_law 926 = .ok (.pop, 1) := dc1_87 (by decide +kernel)
theorem dL_law_927 : decode cL_law 927 = .ok (.goto 562, 3) := dcs_167 (n := 562) (by decide +kernel)
theorem dL_law_930 : decode cL_law 930 = .ok (.aload_n 1, 1) := dc1_43 (by decide +kernel)
theorem dL_law_931 : decode cL_law 931 = .ok (.aload_n 0, 1) := dc1_42 (by decide +kernel)
theorem dL_law_932 : decode cL_law 932 = .ok (.iload_n 3, 1) := dc1_29 (by decide +kernel)
theorem dL_law_933 : decode cL_law 933 = .ok (.iconst 1, 1) := dc1_4 (by decide +kernel)
theorem dL_law_934 : decode cL_law 934 = .ok (.iadd, 1) := dc1_96 (by decide +kernel)
theorem dL_law_935 : decode cL_law 935 = .ok (.iaload, 1) := dc1_46 (by decide +kernel)
theorem dL_law_936 : decode cL_law 936 = .ok (.aload_n 0, 1) := dc1_42 (by decide +kernel)
theorem dL_law_937 : decode cL_law 937 = .ok (.iload_n 3, 1) := dc1_29 (by decide +kernel)
theorem dL_law_938 : decode cL_law 938 = .ok (.iconst 2, 1) := dc1_5 (by decide +kernel)
theorem dL_law_939 : decode cL_law 939 = .ok (.iadd, 1) := dc1_96 (by decide +kernel)
theorem dL_law_940 : decode cL_law 940 = .ok (.iaload, 1) := dc1_46 (by decide +kernel)
theorem dL_law_941 : decode cL_law 941 = .ok (.invokevirtual 125, 3) := dcw_182 (by decide +kernel)
theorem dL_law_944 : decode cL_law 944 = .ok (.pop, 1) := dc1_87 (by decide +kernel)
theorem dL_law_945 : decode cL_law 945 = .ok (.aload_n 2, 1) := dc1_44 (by decide +kernel)
theorem dL_law_946 : decode cL_law 946 = .ok (.aload_n 0, 1) := dc1_42 (by decide +kernel)
theorem dL_law_947 : decode cL_law 947 = .ok (.iload_n 3, 1) := dc1_29 (by decide +kernel)
theorem dL_law_948 : decode cL_law 948 = .ok (.iconst 1, 1) := dc1_4 (by decide +kernel)
theorem dL_law_949 : decode cL_law 949 = .ok (.iadd, 1) := dc1_96 (by decide +kernel)
theorem dL_law_950 : decode cL_law 950 = .ok (.iaload, 1) := dc1_46 (by decide +kernel)
theorem dL_law_951 : decode cL_law 951 = .ok (.aload_n 0, 1) := dc1_42 (by decide +kernel)
theorem dL_law_952 : decode cL_law 952 = .ok (.iload_n 3, 1) := dc1_29 (by decide +kernel)
theorem dL_law_953 : decode cL_law 953 = .ok (.iconst 2, 1) := dc1_5 (by decide +kernel)
theorem dL_law_954 : decode cL_law 954 = .ok (.iadd, 1) := dc1_96 (by decide +kernel)
theorem dL_law_955 : decode cL_law 955 = .ok (.iaload, 1) := dc1_46 (by decide +kernel)
theorem dL_law_956 : decode cL_law 956 = .ok (.invokevirtual 128, 3) := dcw_182 (by decide +kernel)
theorem dL_law_959 : decode cL_law 959 = .ok (.pop, 1) := dc1_87 (by decide +kernel)
theorem dL_law_960 : decode cL_law 960 = .ok (.goto 529, 3) := dcs_167 (n := 529) (by decide +kernel)
theorem dL_law_963 : decode cL_law 963 = .ok (.aload_n 1, 1) := dc1_43 (by decide +kernel)
theorem dL_law_964 : decode cL_law 964 = .ok (.aload_n 0, 1) := dc1_42 (by decide +kernel)
theorem dL_law_965 : decode cL_law 965 = .ok (.iload_n 3, 1) := dc1_29 (by decide +kernel)
theorem dL_law_966 : decode cL_law 966 = .ok (.iconst 1, 1) := dc1_4 (by decide +kernel)
theorem dL_law_967 : decode cL_law 967 = .ok (.iadd, 1) := dc1_96 (by decide +kernel)
theorem dL_law_968 : decode cL_law 968 = .ok (.iaload, 1) := dc1_46 (by decide +kernel)
theorem dL_law_969 : decode cL_law 969 = .ok (.invokevirtual 129, 3) := dcw_182 (by decide +kernel)
theorem dL_law_972 : decode cL_law 972 = .ok (.pop, 1) := dc1_87 (by decide +kernel)
theorem dL_law_973 : decode cL_law 973 = .ok (.aload_n 2, 1) := dc1_44 (by decide +kernel)
theorem dL_law_974 : decode cL_law 974 = .ok (.aload_n 0, 1) := dc1_42 (by decide +kernel)
theorem dL_law_975 : decode cL_law 975 = .ok (.iload_n 3, 1) := dc1_29 (by decide +kernel)
theorem dL_law_976 : decode cL_law 976 = .ok (.iconst 1, 1) := dc1_4 (by decide +kernel)
theorem dL_law_977 : decode cL_law 977 = .ok (.iadd, 1) := dc1_96 (by decide +kernel)
theorem dL_law_978 : decode cL_law 978 = .ok (.iaload, 1) := dc1_46 (by decide +kernel)
theorem dL_law_979 : decode cL_law 979 = .ok (.invokevirtual 132, 3) := dcw_182 (by decide +kernel)
theorem dL_law_982 : decode cL_law 982 = .ok (.pop, 1) := dc1_87 (by decide +kernel)
theorem dL_law_983 : decode cL_law 983 = .ok (.goto 506, 3) := dcs_167 (n := 506) (by decide +kernel)
theorem dL_law_986 : decode cL_law 986 = .ok (.aload_n 1, 1) := dc1_43 (by decide +kernel)
theorem dL_law_987 : decode cL_law 987 = .ok (.invokevirtual 133, 3) := dcw_182 (by decide +kernel)
theorem dL_law_990 : decode cL_law 990 = .ok (.pop, 1) := dc1_87 (by decide +kernel)
theorem dL_law_991 : decode cL_law 991 = .ok (.aload_n 2, 1) := dc1_44 (by decide +kernel)
theorem dL_law_992 : decode cL_law 992 = .ok (.invokevirtual 136, 3) := dcw_182 (by decide +kernel)
theorem dL_law_995 : decode cL_law 995 = .ok (.pop, 1) := dc1_87 (by decide +kernel)
theorem dL_law_996 : decode cL_law 996 = .ok (.goto 493, 3) := dcs_167 (n := 493) (by decide +kernel)
theorem dL_law_999 : decode cL_law 999 = .ok (.aload_n 1, 1) := dc1_43 (by decide +kernel)
theorem dL_law_1000 : decode cL_law 1000 = .ok (.aload_n 0, 1) := dc1_42 (by decide +kernel)
theorem dL_law_1001 : decode cL_law 1001 = .ok (.iload_n 3, 1) := dc1_29 (by decide +kernel)
theorem dL_law_1002 : decode cL_law 1002 = .ok (.iconst 1, 1) := dc1_4 (by decide +kernel)
theorem dL_law_1003 : decode cL_law 1003 = .ok (.iadd, 1) := dc1_96 (by decide +kernel)
theorem dL_law_1004 : decode cL_law 1004 = .ok (.iaload, 1) := dc1_46 (by decide +kernel)
theorem dL_law_1005 : decode cL_law 1005 = .ok (.invokevirtual 137, 3) := dcw_182 (by decide +kernel)
theorem dL_law_1008 : decode cL_law 1008 = .ok (.pop, 1) := dc1_87 (by decide +kernel)
theorem dL_law_1009 : decode cL_law 1009 = .ok (.aload_n 2, 1) := dc1_44 (by decide +kernel)
theorem dL_law_1010 : decode cL_law 1010 = .ok (.aload_n 0, 1) := dc1_42 (by decide +kernel)
theorem dL_law_1011 : decode cL_law 1011 = .ok (.iload_n 3, 1) := dc1_29 (by decide +kernel)
theorem dL_law_1012 : decode cL_law 1012 = .ok (.iconst 1, 1) := dc1_4 (by decide +kernel)
theorem dL_law_1013 : decode cL_law 1013 = .ok (.iadd, 1) := dc1_96 (by decide +kernel)
theorem dL_law_1014 : decode cL_law 1014 = .ok (.iaload, 1) := dc1_46 (by decide +kernel)
theorem dL_law_1015 : decode cL_law 1015 = .ok (.invokevirtual 140, 3) := dcw_182 (by decide +kernel)
theorem dL_law_1018 : decode cL_law 1018 = .ok (.pop, 1) := dc1_87 (by decide +kernel)
theorem dL_law_1019 : decode cL_law 1019 = .ok (.goto 470, 3) := dcs_167 (n := 470) (by decide +kernel)
set_option maxHeartbeats 4000000 in
set_option maxRecDepth 100000 in
theorem law_case_22 {p : Program} {e : Env} {s : State} {m : MethodId} {below : List Frame} {meth : Method} {c : Code} (l : Launch) {b L : Nat} {xs : Nat → Int32} (hL : L ≤ 3072) (C0 : lw_At p s m meth c b L xs) (dC : Nat → ClassId) (dI : Nat → Nat → Nat) (cB cI cJ cZ cS : ClassId) (hK : va_K (dC, dI) vwCl (tysA cB cI cJ cZ cS) s) (hN : nw_ok s) (ak av : Nat) (hXS : xS ak av (fun q : Nat => s.heap.size ≤ q) s s.heap) (a b1 b2 c0 : Nat → Nat) (bb : Nat → Nat → Nat) (hm : Nat) (a9 : Nat → Nat) (i : Nat) (hi : i + 6 ≤ L) (kk : ∀ (y : YS) (z : RS) (H : Heap) (locs : List Loc) (ls : Array Slot), InvK y.x.k → InvG y.x.g → InvR z → Big z → TP y z → va_P (dC, dI) vwCl (mwS cB cI cJ cZ hm a9 z ++ wY cB cI cJ cZ cS a b1 b2 c0 bb y) H → va_D (fun q : Nat => s.heap.size ≤ q) (mwS cB cI cJ cZ hm a9 z ++ wY cB cI cJ cZ cS a b1 b2 c0 bb y) → va_S (fun q : Nat => s.heap.size ≤ q) s.heap H locs → lv_has ls 4 [(3, .int (nI i)), (2, .ref hm), (1, .ref (c0 0)), (0, .ref b)] → W p l e room_1 s m #[Value.ref b] below meth c H locs 361 24806 (lw_Z below #[Value.ref b] s) (F0 m 1489 ls [])) : ∀ (y : YS) (z : RS) (H : Heap) (locs : List Loc) (ls : Array Slot), InvK y.x.k → InvG y.x.g → InvR z → Big z → TP y z → va_P (dC, dI) vwCl (mwS cB cI cJ cZ hm a9 z ++ wY cB cI cJ cZ cS a b1 b2 c0 bb y) H → va_D (fun q : Nat => s.heap.size ≤ q) (mwS cB cI cJ cZ hm a9 z ++ wY cB cI cJ cZ cS a b1 b2 c0 bb y) → va_S (fun q : Nat => s.heap.size ≤ q) s.heap H locs → lv_has ls 4 [(3, .int (nI i)), (2, .ref hm), (1, .ref (c0 0)), (0, .ref b)] → W p l e room_1 s m #[Value.ref b] below meth c H locs 361 24806 (lw_Z below #[Value.ref b] s) (F0 m 818 ls []) := by
  obtain ⟨hx, hb, hr, hml, hown, hts, hX, hbl, hlocks, hgv⟩ := id C0
  have C : CallFix p m c code 4 s #[Value.ref b] lw_tbl R_law := ⟨hx, hb, hml, hown, hts⟩
  have hA : ∀ q : Nat, s.heap.size ≤ q → (fun q : Nat => s.heap.size ≤ q) q := fun _ h => h
  have hbA : ¬ (fun q : Nat => s.heap.size ≤ q) b := Nat.not_le.mpr hbl
  intro y z H locs ls hIK hIG hIR hBG hTP hP hD hS hl
  refine lv_aload_n hx hb dL_law_818 rfl (lv_at hl 2 rfl) ?_
  refine lv_aload_n hx hb dL_law_819 rfl (lv_at hl 3 rfl) ?_
  refine lv_iload_n hx hb dL_law_820 rfl (lv_at hl 0 rfl) ?_
  refine lv_iconst (v := 1) hx hb dL_law_821 (by decide) ?_
  refine lv_iadd hx hb dL_law_822 ?_
  refine q_top (y := nI (i + 1)) (nI_add i 1) ?_
  refine va_sld hx hb hX hbl hbA hS (vp_in_nI (by omega) (by omega)) dL_law_823 ?_
  obtain ⟨⟨r1, y1⟩, hB1, hq1⟩ := ok_kX10_rank y.x (xs (Int32.toNatClampNeg (nI (i + 1)))) (hIK) (hIG)
  have hP1 : va_P (dC, dI) vwCl (wX cB cI cJ cZ cS a b1 b2 c0 (rgP bb) (slP bb) y.x ++ (wPool cI bb y.r 43 ++ mwS cB cI cJ cZ hm a9 z)) H := sw1P hP
  have hD1 : va_D (fun q : Nat => s.heap.size ≤ q) (wX cB cI cJ cZ cS a b1 b2 c0 (rgP bb) (slP bb) y.x ++ (wPool cI bb y.r 43 ++ mwS cB cI cJ cZ hm a9 z)) := sw1D hD
  refine q_goiW (va_runV (As := [.int (xs (Int32.toNatClampNeg (nI (i + 1))))]) (rest := []) C (ckX10_rank hB1 _) (cwV 1 hts glv_X10_rank rfl rfl rfl (by decide +kernel) ⟨Nat.le_of_ble_eq_true rfl, Nat.le_of_ble_eq_true rfl⟩) (q_preV hK (P_left hP1) (ci := 10) (q0 := 0) rfl rfl rfl (q_preF hN hK (P_left hP1) (D_left hD1))) rfl rfl hl.1 rfl (lv_room (Nat.le_of_ble_eq_true rfl)) dL_law_824 ⟨Nat.le_of_ble_eq_true rfl, Nat.le_of_ble_eq_true rfl⟩) hP1 hD1 hS hA (fun q1 w1 H locs hw hP hD hS => ?_)
  obtain ⟨hr1, hw⟩ := hw
  subst hw
  have hP : va_P (dC, dI) vwCl (mwS cB cI cJ cZ hm a9 z ++ wY cB cI cJ cZ cS a b1 b2 c0 bb (YS.mk y1 y.r)) H := sw3P hP
  have hD : va_D (fun q : Nat => s.heap.size ≤ q) (mwS cB cI cJ cZ hm a9 z ++ wY cB cI cJ cZ cS a b1 b2 c0 bb (YS.mk y1 y.r)) := sw3D hD
  refine lv_pop hx hb dL_law_827 rfl ?_
  refine lv_aload_n hx hb dL_law_828 rfl (lv_at hl 1 rfl) ?_
  refine lv_aload_n hx hb dL_law_829 rfl (lv_at hl 3 rfl) ?_
  refine lv_iload_n hx hb dL_law_830 rfl (lv_at hl 0 rfl) ?_
  refine lv_iconst (v := 1) hx hb dL_law_831 (by decide) ?_
  refine lv_iadd hx hb dL_law_832 ?_
  refine q_top (y := nI (i + 1)) (nI_add i 1) ?_
  refine va_sld hx hb hX hbl hbA hS (vp_in_nI (by omega) (by omega)) dL_law_833 ?_
  obtain ⟨⟨r2, z2⟩, hB2, hq2⟩ := ok_r_rank z (xs (Int32.toNatClampNeg (nI (i + 1)))) (hIR) (hBG)
  refine q_goiW (va_runV (As := [.int (xs (Int32.toNatClampNeg (nI (i + 1))))]) (rest := []) C (cr_rank hB2 _) (cwV 1 hts glv_X11_rank rfl rfl rfl (by decide +kernel) ⟨Nat.le_of_ble_eq_true rfl, Nat.le_of_ble_eq_true rfl⟩) (q_preV hK (P_left hP) (ci := 11) (q0 := 0) rfl rfl rfl (q_preF hN hK (P_left hP) (D_left hD))) rfl rfl hl.1 rfl (lv_room (Nat.le_of_ble_eq_true rfl)) dL_law_834 ⟨Nat.le_of_ble_eq_true rfl, Nat.le_of_ble_eq_true rfl⟩) hP hD hS hA (fun q2 w2 H locs hw hP hD hS => ?_)
  obtain ⟨hr2, hw⟩ := hw
  subst hw
  refine lv_pop hx hb dL_law_837 rfl ?_
  refine lv_goto (tgt := 1489) hx hb dL_law_838 (by decide) ?_
  exact kk (YS.mk y1 y.r) z2 H locs ls (hq1.1) (hq1.2.2.1) (hq2.1) ((hBG).fr (hq2.2.1) (by decide)) ⟨tpr_keep (hq1.2.1) (hq2.2.1) (by decide) (by decide) hTP.1, REL.keep hTP.2 (fr_kX10_rank _ _ _ _ ⟨rfl, rfl⟩ _ hB1).1 (fr_kX10_rank _ _ _ _ ⟨rfl, rfl⟩ _ hB1).2 (hq1.2.1) (hq2.2.1) ⟨by decide, by decide⟩ ⟨by decide, by decide⟩⟩ hP hD hS hl

set_option maxHeartbeats 4000000 in
set_option maxRecDepth 100000 in
theorem law_case_23 {p : Program} {e : Env} {s : State} {m : MethodId} {below : List Frame} {meth : Method} {c : Code} (l : Launch) {b L : Nat} {xs : Nat → Int32} (hL : L ≤ 3072) (C0 : lw_At p s m meth c b L xs) (dC : Nat → ClassId) (dI : Nat → Nat → Nat) (cB cI cJ cZ cS : ClassId) (hK : va_K (dC, dI) vwCl (tysA cB cI cJ cZ cS) s) (hN : nw_ok s) (ak av : Nat) (hXS : xS ak av (fun q : Nat => s.heap.size ≤ q) s s.heap) (a b1 b2 c0 : Nat → Nat) (bb : Nat → Nat → Nat) (hm : Nat) (a9 : Nat → Nat) (i : Nat) (hi : i + 6 ≤ L) (kk : ∀ (y : YS) (z : RS) (H : Heap) (locs : List Loc) (ls : Array Slot), InvK y.x.k → InvG y.x.g → InvR z → Big z → TP y z → va_P (dC, dI) vwCl (mwS cB cI cJ cZ hm a9 z ++ wY cB cI cJ cZ cS a b1 b2 c0 bb y) H → va_D (fun q : Nat => s.heap.size ≤ q) (mwS cB cI cJ cZ hm a9 z ++ wY cB cI cJ cZ cS a b1 b2 c0 bb y) → va_S (fun q : Nat => s.heap.size ≤ q) s.heap H locs → lv_has ls 4 [(3, .int (nI i)), (2, .ref hm), (1, .ref (c0 0)), (0, .ref b)] → W p l e room_1 s m #[Value.ref b] below meth c H locs 361 24806 (lw_Z below #[Value.ref b] s) (F0 m 1489 ls [])) : ∀ (y : YS) (z : RS) (H : Heap) (locs : List Loc) (ls : Array Slot), InvK y.x.k → InvG y.x.g → InvR z → Big z → TP y z → va_P (dC, dI) vwCl (mwS cB cI cJ cZ hm a9 z ++ wY cB cI cJ cZ cS a b1 b2 c0 bb y) H → va_D (fun q : Nat => s.heap.size ≤ q) (mwS cB cI cJ cZ hm a9 z ++ wY cB cI cJ cZ cS a b1 b2 c0 bb y) → va_S (fun q : Nat => s.heap.size ≤ q) s.heap H locs → lv_has ls 4 [(3, .int (nI i)), (2, .ref hm), (1, .ref (c0 0)), (0, .ref b)] → W p l e room_1 s m #[Value.ref b] below meth c H locs 361 24806 (lw_Z below #[Value.ref b] s) (F0 m 841 ls []) := by
  obtain ⟨hx, hb, hr, hml, hown, hts, hX, hbl, hlocks, hgv⟩ := id C0
  have C : CallFix p m c code 4 s #[Value.ref b] lw_tbl R_law := ⟨hx, hb, hml, hown, hts⟩
  have hA : ∀ q : Nat, s.heap.size ≤ q → (fun q : Nat => s.heap.size ≤ q) q := fun _ h => h
  have hbA : ¬ (fun q : Nat => s.heap.size ≤ q) b := Nat.not_le.mpr hbl
  intro y z H locs ls hIK hIG hIR hBG hTP hP hD hS hl
  refine lv_aload_n hx hb dL_law_841 rfl (lv_at hl 2 rfl) ?_
  refine lv_aload_n hx hb dL_law_842 rfl (lv_at hl 3 rfl) ?_
  refine lv_iload_n hx hb dL_law_843 rfl (lv_at hl 0 rfl) ?_
  refine lv_iconst (v := 1) hx hb dL_law_844 (by decide) ?_
  refine lv_iadd hx hb dL_law_845 ?_
  refine q_top (y := nI (i + 1)) (nI_add i 1) ?_
  refine va_sld hx hb hX hbl hbA hS (vp_in_nI (by omega) (by omega)) dL_law_846 ?_
  obtain ⟨⟨r1, y1⟩, hB1, hq1⟩ := ok_kX10_ranked y.x (xs (Int32.toNatClampNeg (nI (i + 1)))) (hIK) (hIG)
  have hP1 : va_P (dC, dI) vwCl (wX cB cI cJ cZ cS a b1 b2 c0 (rgP bb) (slP bb) y.x ++ (wPool cI bb y.r 43 ++ mwS cB cI cJ cZ hm a9 z)) H := sw1P hP
  have hD1 : va_D (fun q : Nat => s.heap.size ≤ q) (wX cB cI cJ cZ cS a b1 b2 c0 (rgP bb) (slP bb) y.x ++ (wPool cI bb y.r 43 ++ mwS cB cI cJ cZ hm a9 z)) := sw1D hD
  refine q_goiW (va_runV (As := [.int (xs (Int32.toNatClampNeg (nI (i + 1))))]) (rest := []) C (ckX10_ranked hB1 _) (cwV 1 hts glv_X10_ranked rfl rfl rfl (by decide +kernel) ⟨Nat.le_of_ble_eq_true rfl, Nat.le_of_ble_eq_true rfl⟩) (q_preV hK (P_left hP1) (ci := 10) (q0 := 0) rfl rfl rfl (q_preF hN hK (P_left hP1) (D_left hD1))) rfl rfl hl.1 rfl (lv_room (Nat.le_of_ble_eq_true rfl)) dL_law_847 ⟨Nat.le_of_ble_eq_true rfl, Nat.le_of_ble_eq_true rfl⟩) hP1 hD1 hS hA (fun q1 w1 H locs hw hP hD hS => ?_)
  obtain ⟨hr1, hw⟩ := hw
  subst hw
  have hP : va_P (dC, dI) vwCl (mwS cB cI cJ cZ hm a9 z ++ wY cB cI cJ cZ cS a b1 b2 c0 bb (YS.mk y1 y.r)) H := sw3P hP
  have hD : va_D (fun q : Nat => s.heap.size ≤ q) (mwS cB cI cJ cZ hm a9 z ++ wY cB cI cJ cZ cS a b1 b2 c0 bb (YS.mk y1 y.r)) := sw3D hD
  refine lv_pop hx hb dL_law_850 rfl ?_
  refine lv_aload_n hx hb dL_law_851 rfl (lv_at hl 1 rfl) ?_
  refine lv_aload_n hx hb dL_law_852 rfl (lv_at hl 3 rfl) ?_
  refine lv_iload_n hx hb dL_law_853 rfl (lv_at hl 0 rfl) ?_
  refine lv_iconst (v := 1) hx hb dL_law_854 (by decide) ?_
  refine lv_iadd hx hb dL_law_855 ?_
  refine q_top (y := nI (i + 1)) (nI_add i 1) ?_
  refine va_sld hx hb hX hbl hbA hS (vp_in_nI (by omega) (by omega)) dL_law_856 ?_
  obtain ⟨⟨r2, z2⟩, hB2, hq2⟩ := ok_r_ranked z (xs (Int32.toNatClampNeg (nI (i + 1)))) (hIR) (hBG)
  refine q_goiW (va_runV (As := [.int (xs (Int32.toNatClampNeg (nI (i + 1))))]) (rest := []) C (cr_ranked hB2 _) (cwV 1 hts glv_X11_ranked rfl rfl rfl (by decide +kernel) ⟨Nat.le_of_ble_eq_true rfl, Nat.le_of_ble_eq_true rfl⟩) (q_preV hK (P_left hP) (ci := 11) (q0 := 0) rfl rfl rfl (q_preF hN hK (P_left hP) (D_left hD))) rfl rfl hl.1 rfl (lv_room (Nat.le_of_ble_eq_true rfl)) dL_law_857 ⟨Nat.le_of_ble_eq_true rfl, Nat.le_of_ble_eq_true rfl⟩) hP hD hS hA (fun q2 w2 H locs hw hP hD hS => ?_)
  obtain ⟨hr2, hw⟩ := hw
  subst hw
  refine lv_pop hx hb dL_law_860 rfl ?_
  refine lv_goto (tgt := 1489) hx hb dL_law_861 (by decide) ?_
  exact kk (YS.mk y1 y.r) z2 H locs ls (hq1.1) (hq1.2.2.1) (hq2.1) ((hBG).fr (hq2.2.1) (by decide)) ⟨tpr_keep (hq1.2.1) (hq2.2.1) (by decide) (by decide) hTP.1, REL.keep hTP.2 (fr_kX10_ranked _ _ _ _ ⟨rfl, rfl⟩ _ hB1).1 (fr_kX10_ranked _ _ _ _ ⟨rfl, rfl⟩ _ hB1).2 (hq1.2.1) (hq2.2.1) ⟨by decide, by decide⟩ ⟨by decide, by decide⟩⟩ hP hD hS hl

set_option maxHeartbeats 4000000 in
set_option maxRecDepth 100000 in
theorem law_case_24 {p : Program} {e : Env} {s : State} {m : MethodId} {below : List Frame} {meth : Method} {c : Code} (l : Launch) {b L : Nat} {xs : Nat → Int32} (hL : L ≤ 3072) (C0 : lw_At p s m meth c b L xs) (dC : Nat → ClassId) (dI : Nat → Nat → Nat) (cB cI cJ cZ cS : ClassId) (hK : va_K (dC, dI) vwCl (tysA cB cI cJ cZ cS) s) (hN : nw_ok s) (ak av : Nat) (hXS : xS ak av (fun q : Nat => s.heap.size ≤ q) s s.heap) (a b1 b2 c0 : Nat → Nat) (bb : Nat → Nat → Nat) (hm : Nat) (a9 : Nat → Nat) (i : Nat) (hi : i + 6 ≤ L) (kk : ∀ (y : YS) (z : RS) (H : Heap) (locs : List Loc) (ls : Array Slot), InvK y.x.k → InvG y.x.g → InvR z → Big z → TP y z → va_P (dC, dI) vwCl (mwS cB cI cJ cZ hm a9 z ++ wY cB cI cJ cZ cS a b1 b2 c0 bb y) H → va_D (fun q : Nat => s.heap.size ≤ q) (mwS cB cI cJ cZ hm a9 z ++ wY cB cI cJ cZ cS a b1 b2 c0 bb y) → va_S (fun q : Nat => s.heap.size ≤ q) s.heap H locs → lv_has ls 4 [(3, .int (nI i)), (2, .ref hm), (1, .ref (c0 0)), (0, .ref b)] → W p l e room_1 s m #[Value.ref b] below meth c H locs 361 24806 (lw_Z below #[Value.ref b] s) (F0 m 1489 ls [])) : ∀ (y : YS) (z : RS) (H : Heap) (locs : List Loc) (ls : Array Slot), InvK y.x.k → InvG y.x.g → InvR z → Big z → TP y z → va_P (dC, dI) vwCl (mwS cB cI cJ cZ hm a9 z ++ wY cB cI cJ cZ cS a b1 b2 c0 bb y) H → va_D (fun q : Nat => s.heap.size ≤ q) (mwS cB cI cJ cZ hm a9 z ++ wY cB cI cJ cZ cS a b1 b2 c0 bb y) → va_S (fun q : Nat => s.heap.size ≤ q) s.heap H locs → lv_has ls 4 [(3, .int (nI i)), (2, .ref hm), (1, .ref (c0 0)), (0, .ref b)] → W p l e room_1 s m #[Value.ref b] below meth c H locs 361 24806 (lw_Z below #[Value.ref b] s) (F0 m 864 ls []) := by
  obtain ⟨hx, hb, hr, hml, hown, hts, hX, hbl, hlocks, hgv⟩ := id C0
  have C : CallFix p m c code 4 s #[Value.ref b] lw_tbl R_law := ⟨hx, hb, hml, hown, hts⟩
  have hA : ∀ q : Nat, s.heap.size ≤ q → (fun q : Nat => s.heap.size ≤ q) q := fun _ h => h
  have hbA : ¬ (fun q : Nat => s.heap.size ≤ q) b := Nat.not_le.mpr hbl
  intro y z H locs ls hIK hIG hIR hBG hTP hP hD hS hl
  refine lv_aload_n hx hb dL_law_864 rfl (lv_at hl 2 rfl) ?_
  refine lv_aload_n hx hb dL_law_865 rfl (lv_at hl 3 rfl) ?_
  refine lv_iload_n hx hb dL_law_866 rfl (lv_at hl 0 rfl) ?_
  refine lv_iconst (v := 1) hx hb dL_law_867 (by decide) ?_
  refine lv_iadd hx hb dL_law_868 ?_
  refine q_top (y := nI (i + 1)) (nI_add i 1) ?_
  refine va_sld hx hb hX hbl hbA hS (vp_in_nI (by omega) (by omega)) dL_law_869 ?_
  refine lv_aload_n hx hb dL_law_870 rfl (lv_at hl 3 rfl) ?_
  refine lv_iload_n hx hb dL_law_871 rfl (lv_at hl 0 rfl) ?_
  refine lv_iconst (v := 2) hx hb dL_law_872 (by decide) ?_
  refine lv_iadd hx hb dL_law_873 ?_
  refine q_top (y := nI (i + 2)) (nI_add i 2) ?_
  refine va_sld hx hb hX hbl hbA hS (vp_in_nI (by omega) (by omega)) dL_law_874 ?_
  obtain ⟨⟨r1, y1⟩, hB1, hq1⟩ := ok_kX10_share y.x (xs (Int32.toNatClampNeg (nI (i + 1)))) (xs (Int32.toNatClampNeg (nI (i + 2)))) (hIK) (hIG)
  have hP1 : va_P (dC, dI) vwCl (wX cB cI cJ cZ cS a b1 b2 c0 (rgP bb) (slP bb) y.x ++ (wPool cI bb y.r 43 ++ mwS cB cI cJ cZ hm a9 z)) H := sw1P hP
  have hD1 : va_D (fun q : Nat => s.heap.size ≤ q) (wX cB cI cJ cZ cS a b1 b2 c0 (rgP bb) (slP bb) y.x ++ (wPool cI bb y.r 43 ++ mwS cB cI cJ cZ hm a9 z)) := sw1D hD
  refine q_goiW (va_runV (As := [.int (xs (Int32.toNatClampNeg (nI (i + 1)))), .int (xs (Int32.toNatClampNeg (nI (i + 2))))]) (rest := []) C (ckX10_share hB1 _) (cwV 2 hts glv_X10_share rfl rfl rfl (by decide +kernel) ⟨Nat.le_of_ble_eq_true rfl, Nat.le_of_ble_eq_true rfl⟩) (q_preV hK (P_left hP1) (ci := 10) (q0 := 0) rfl rfl rfl (q_preF hN hK (P_left hP1) (D_left hD1))) rfl rfl hl.1 rfl (lv_room (Nat.le_of_ble_eq_true rfl)) dL_law_875 ⟨Nat.le_of_ble_eq_true rfl, Nat.le_of_ble_eq_true rfl⟩) hP1 hD1 hS hA (fun q1 w1 H locs hw hP hD hS => ?_)
  obtain ⟨hr1, hw⟩ := hw
  subst hw
  have hP : va_P (dC, dI) vwCl (mwS cB cI cJ cZ hm a9 z ++ wY cB cI cJ cZ cS a b1 b2 c0 bb (YS.mk y1 y.r)) H := sw3P hP
  have hD : va_D (fun q : Nat => s.heap.size ≤ q) (mwS cB cI cJ cZ hm a9 z ++ wY cB cI cJ cZ cS a b1 b2 c0 bb (YS.mk y1 y.r)) := sw3D hD
  refine lv_pop hx hb dL_law_878 rfl ?_
  refine lv_aload_n hx hb dL_law_879 rfl (lv_at hl 1 rfl) ?_
  refine lv_aload_n hx hb dL_law_880 rfl (lv_at hl 3 rfl) ?_
  refine lv_iload_n hx hb dL_law_881 rfl (lv_at hl 0 rfl) ?_
  refine lv_iconst (v := 1) hx hb dL_law_882 (by decide) ?_
  refine lv_iadd hx hb dL_law_883 ?_
  refine q_top (y := nI (i + 1)) (nI_add i 1) ?_
  refine va_sld hx hb hX hbl hbA hS (vp_in_nI (by omega) (by omega)) dL_law_884 ?_
  refine lv_aload_n hx hb dL_law_885 rfl (lv_at hl 3 rfl) ?_
  refine lv_iload_n hx hb dL_law_886 rfl (lv_at hl 0 rfl) ?_
  refine lv_iconst (v := 2) hx hb dL_law_887 (by decide) ?_
  refine lv_iadd hx hb dL_law_888 ?_
  refine q_top (y := nI (i + 2)) (nI_add i 2) ?_
  refine va_sld hx hb hX hbl hbA hS (vp_in_nI (by omega) (by omega)) dL_law_889 ?_
  obtain ⟨⟨r2, z2⟩, hB2, hq2⟩ := ok_r_share z (xs (Int32.toNatClampNeg (nI (i + 1)))) (xs (Int32.toNatClampNeg (nI (i + 2)))) (hIR)
  refine q_goiW (va_runV (As := [.int (xs (Int32.toNatClampNeg (nI (i + 1)))), .int (xs (Int32.toNatClampNeg (nI (i + 2))))]) (rest := []) C (cr_share hB2 _) (cwV 2 hts glv_X11_share rfl rfl rfl (by decide +kernel) ⟨Nat.le_of_ble_eq_true rfl, Nat.le_of_ble_eq_true rfl⟩) (q_preV hK (P_left hP) (ci := 11) (q0 := 0) rfl rfl rfl (q_preF hN hK (P_left hP) (D_left hD))) rfl rfl hl.1 rfl (lv_room (Nat.le_of_ble_eq_true rfl)) dL_law_890 ⟨Nat.le_of_ble_eq_true rfl, Nat.le_of_ble_eq_true rfl⟩) hP hD hS hA (fun q2 w2 H locs hw hP hD hS => ?_)
  obtain ⟨hr2, hw⟩ := hw
  subst hw
  refine lv_pop hx hb dL_law_893 rfl ?_
  refine lv_goto (tgt := 1489) hx hb dL_law_894 (by decide) ?_
  exact kk (YS.mk y1 y.r) z2 H locs ls (hq1.1) (hq1.2.2.1) (hq2.1) ((hBG).fr (hq2.2.1) (by decide)) ⟨tpr_keep (hq1.2.1) (hq2.2.1) (by decide) (by decide) hTP.1, REL.keep hTP.2 (fr_kX10_share _ _ _ _ _ ⟨rfl, rfl⟩ _ hB1).1 (fr_kX10_share _ _ _ _ _ ⟨rfl, rfl⟩ _ hB1).2 (hq1.2.1) (hq2.2.1) ⟨by decide, by decide⟩ ⟨by decide, by decide⟩⟩ hP hD hS hl

set_option maxHeartbeats 4000000 in
set_option maxRecDepth 100000 in
theorem law_case_25 {p : Program} {e : Env} {s : State} {m : MethodId} {below : List Frame} {meth : Method} {c : Code} (l : Launch) {b L : Nat} {xs : Nat → Int32} (hL : L ≤ 3072) (C0 : lw_At p s m meth c b L xs) (dC : Nat → ClassId) (dI : Nat → Nat → Nat) (cB cI cJ cZ cS : ClassId) (hK : va_K (dC, dI) vwCl (tysA cB cI cJ cZ cS) s) (hN : nw_ok s) (ak av : Nat) (hXS : xS ak av (fun q : Nat => s.heap.size ≤ q) s s.heap) (a b1 b2 c0 : Nat → Nat) (bb : Nat → Nat → Nat) (hm : Nat) (a9 : Nat → Nat) (i : Nat) (hi : i + 6 ≤ L) (kk : ∀ (y : YS) (z : RS) (H : Heap) (locs : List Loc) (ls : Array Slot), InvK y.x.k → InvG y.x.g → InvR z → Big z → TP y z → va_P (dC, dI) vwCl (mwS cB cI cJ cZ hm a9 z ++ wY cB cI cJ cZ cS a b1 b2 c0 bb y) H → va_D (fun q : Nat => s.heap.size ≤ q) (mwS cB cI cJ cZ hm a9 z ++ wY cB cI cJ cZ cS a b1 b2 c0 bb y) → va_S (fun q : Nat => s.heap.size ≤ q) s.heap H locs → lv_has ls 4 [(3, .int (nI i)), (2, .ref hm), (1, .ref (c0 0)), (0, .ref b)] → W p l e room_1 s m #[Value.ref b] below meth c H locs 361 24806 (lw_Z below #[Value.ref b] s) (F0 m 1489 ls [])) : ∀ (y : YS) (z : RS) (H : Heap) (locs : List Loc) (ls : Array Slot), InvK y.x.k → InvG y.x.g → InvR z → Big z → TP y z → va_P (dC, dI) vwCl (mwS cB cI cJ cZ hm a9 z ++ wY cB cI cJ cZ cS a b1 b2 c0 bb y) H → va_D (fun q : Nat => s.heap.size ≤ q) (mwS cB cI cJ cZ hm a9 z ++ wY cB cI cJ cZ cS a b1 b2 c0 bb y) → va_S (fun q : Nat => s.heap.size ≤ q) s.heap H locs → lv_has ls 4 [(3, .int (nI i)), (2, .ref hm), (1, .ref (c0 0)), (0, .ref b)] → W p l e room_1 s m #[Value.ref b] below meth c H locs 361 24806 (lw_Z below #[Value.ref b] s) (F0 m 897 ls []) := by
  obtain ⟨hx, hb, hr, hml, hown, hts, hX, hbl, hlocks, hgv⟩ := id C0
  have C : CallFix p m c code 4 s #[Value.ref b] lw_tbl R_law := ⟨hx, hb, hml, hown, hts⟩
  have hA : ∀ q : Nat, s.heap.size ≤ q → (fun q : Nat => s.heap.size ≤ q) q := fun _ h => h
  have hbA : ¬ (fun q : Nat => s.heap.size ≤ q) b := Nat.not_le.mpr hbl
  intro y z H locs ls hIK hIG hIR hBG hTP hP hD hS hl
  refine lv_aload_n hx hb dL_law_897 rfl (lv_at hl 2 rfl) ?_
  refine lv_aload_n hx hb dL_law_898 rfl (lv_at hl 3 rfl) ?_
  refine lv_iload_n hx hb dL_law_899 rfl (lv_at hl 0 rfl) ?_
  refine lv_iconst (v := 1) hx hb dL_law_900 (by decide) ?_
  refine lv_iadd hx hb dL_law_901 ?_
  refine q_top (y := nI (i + 1)) (nI_add i 1) ?_
  refine va_sld hx hb hX hbl hbA hS (vp_in_nI (by omega) (by omega)) dL_law_902 ?_
  refine lv_aload_n hx hb dL_law_903 rfl (lv_at hl 3 rfl) ?_
  refine lv_iload_n hx hb dL_law_904 rfl (lv_at hl 0 rfl) ?_
  refine lv_iconst (v := 2) hx hb dL_law_905 (by decide) ?_
  refine lv_iadd hx hb dL_law_906 ?_
  refine q_top (y := nI (i + 2)) (nI_add i 2) ?_
  refine va_sld hx hb hX hbl hbA hS (vp_in_nI (by omega) (by omega)) dL_law_907 ?_
  obtain ⟨⟨r1, y1⟩, hB1, hq1⟩ := ok_kX10_sure y.x (xs (Int32.toNatClampNeg (nI (i + 1)))) (xs (Int32.toNatClampNeg (nI (i + 2)))) (hIK) (hIG)
  have hP1 : va_P (dC, dI) vwCl (wX cB cI cJ cZ cS a b1 b2 c0 (rgP bb) (slP bb) y.x ++ (wPool cI bb y.r 43 ++ mwS cB cI cJ cZ hm a9 z)) H := sw1P hP
  have hD1 : va_D (fun q : Nat => s.heap.size ≤ q) (wX cB cI cJ cZ cS a b1 b2 c0 (rgP bb) (slP bb) y.x ++ (wPool cI bb y.r 43 ++ mwS cB cI cJ cZ hm a9 z)) := sw1D hD
  refine q_goiW (va_runV (As := [.int (xs (Int32.toNatClampNeg (nI (i + 1)))), .int (xs (Int32.toNatClampNeg (nI (i + 2))))]) (rest := []) C (ckX10_sure hB1 _) (cwV 2 hts glv_X10_sure rfl rfl rfl (by decide +kernel) ⟨Nat.le_of_ble_eq_true rfl, Nat.le_of_ble_eq_true rfl⟩) (q_preV hK (P_left hP1) (ci := 10) (q0 := 0) rfl rfl rfl (q_preF hN hK (P_left hP1) (D_left hD1))) rfl rfl hl.1 rfl (lv_room (Nat.le_of_ble_eq_true rfl)) dL_law_908 ⟨Nat.le_of_ble_eq_true rfl, Nat.le_of_ble_eq_true rfl⟩) hP1 hD1 hS hA (fun q1 w1 H locs hw hP hD hS => ?_)
  obtain ⟨hr1, hw⟩ := hw
  subst hw
  have hP : va_P (dC, dI) vwCl (mwS cB cI cJ cZ hm a9 z ++ wY cB cI cJ cZ cS a b1 b2 c0 bb (YS.mk y1 y.r)) H := sw3P hP
  have hD : va_D (fun q : Nat => s.heap.size ≤ q) (mwS cB cI cJ cZ hm a9 z ++ wY cB cI cJ cZ cS a b1 b2 c0 bb (YS.mk y1 y.r)) := sw3D hD
  refine lv_pop hx hb dL_law_911 rfl ?_
  refine lv_aload_n hx hb dL_law_912 rfl (lv_at hl 1 rfl) ?_
  refine lv_aload_n hx hb dL_law_913 rfl (lv_at hl 3 rfl) ?_
  refine lv_iload_n hx hb dL_law_914 rfl (lv_at hl 0 rfl) ?_
  refine lv_iconst (v := 1) hx hb dL_law_915 (by decide) ?_
  refine lv_iadd hx hb dL_law_916 ?_
  refine q_top (y := nI (i + 1)) (nI_add i 1) ?_
  refine va_sld hx hb hX hbl hbA hS (vp_in_nI (by omega) (by omega)) dL_law_917 ?_
  refine lv_aload_n hx hb dL_law_918 rfl (lv_at hl 3 rfl) ?_
  refine lv_iload_n hx hb dL_law_919 rfl (lv_at hl 0 rfl) ?_
  refine lv_iconst (v := 2) hx hb dL_law_920 (by decide) ?_
  refine lv_iadd hx hb dL_law_921 ?_
  refine q_top (y := nI (i + 2)) (nI_add i 2) ?_
  refine va_sld hx hb hX hbl hbA hS (vp_in_nI (by omega) (by omega)) dL_law_922 ?_
  obtain ⟨⟨r2, z2⟩, hB2, hq2⟩ := ok_r_sure z (xs (Int32.toNatClampNeg (nI (i + 1)))) (xs (Int32.toNatClampNeg (nI (i + 2)))) (hIR) (hBG)
  refine q_goiW (va_runV (As := [.int (xs (Int32.toNatClampNeg (nI (i + 1)))), .int (xs (Int32.toNatClampNeg (nI (i + 2))))]) (rest := []) C (cr_sure hB2 _) (cwV 2 hts glv_X11_sure rfl rfl rfl (by decide +kernel) ⟨Nat.le_of_ble_eq_true rfl, Nat.le_of_ble_eq_true rfl⟩) (q_preV hK (P_left hP) (ci := 11) (q0 := 0) rfl rfl rfl (q_preF hN hK (P_left hP) (D_left hD))) rfl rfl hl.1 rfl (lv_room (Nat.le_of_ble_eq_true rfl)) dL_law_923 ⟨Nat.le_of_ble_eq_true rfl, Nat.le_of_ble_eq_true rfl⟩) hP hD hS hA (fun q2 w2 H locs hw hP hD hS => ?_)
  obtain ⟨hr2, hw⟩ := hw
  subst hw
  refine lv_pop hx hb dL_law_926 rfl ?_
  refine lv_goto (tgt := 1489) hx hb dL_law_927 (by decide) ?_
  exact kk (YS.mk y1 y.r) z2 H locs ls (hq1.1) (hq1.2.2.1) (hq2.1) ((hBG).fr (hq2.2.1) (by decide)) ⟨tpr_keep (hq1.2.1) (hq2.2.1) (by decide) (by decide) hTP.1, REL.keep hTP.2 (fr_kX10_sure _ _ _ _ _ ⟨rfl, rfl⟩ _ hB1).1 (fr_kX10_sure _ _ _ _ _ ⟨rfl, rfl⟩ _ hB1).2 (hq1.2.1) (hq2.2.1) ⟨by decide, by decide⟩ ⟨by decide, by decide⟩⟩ hP hD hS hl

set_option maxHeartbeats 4000000 in
set_option maxRecDepth 100000 in
theorem law_case_26 {p : Program} {e : Env} {s : State} {m : MethodId} {below : List Frame} {meth : Method} {c : Code} (l : Launch) {b L : Nat} {xs : Nat → Int32} (hL : L ≤ 3072) (C0 : lw_At p s m meth c b L xs) (dC : Nat → ClassId) (dI : Nat → Nat → Nat) (cB cI cJ cZ cS : ClassId) (hK : va_K (dC, dI) vwCl (tysA cB cI cJ cZ cS) s) (hN : nw_ok s) (ak av : Nat) (hXS : xS ak av (fun q : Nat => s.heap.size ≤ q) s s.heap) (a b1 b2 c0 : Nat → Nat) (bb : Nat → Nat → Nat) (hm : Nat) (a9 : Nat → Nat) (i : Nat) (hi : i + 6 ≤ L) (kk : ∀ (y : YS) (z : RS) (H : Heap) (locs : List Loc) (ls : Array Slot), InvK y.x.k → InvG y.x.g → InvR z → Big z → TP y z → va_P (dC, dI) vwCl (mwS cB cI cJ cZ hm a9 z ++ wY cB cI cJ cZ cS a b1 b2 c0 bb y) H → va_D (fun q : Nat => s.heap.size ≤ q) (mwS cB cI cJ cZ hm a9 z ++ wY cB cI cJ cZ cS a b1 b2 c0 bb y) → va_S (fun q : Nat => s.heap.size ≤ q) s.heap H locs → lv_has ls 4 [(3, .int (nI i)), (2, .ref hm), (1, .ref (c0 0)), (0, .ref b)] → W p l e room_1 s m #[Value.ref b] below meth c H locs 361 24806 (lw_Z below #[Value.ref b] s) (F0 m 1489 ls [])) : ∀ (y : YS) (z : RS) (H : Heap) (locs : List Loc) (ls : Array Slot), InvK y.x.k → InvG y.x.g → InvR z → Big z → TP y z → va_P (dC, dI) vwCl (mwS cB cI cJ cZ hm a9 z ++ wY cB cI cJ cZ cS a b1 b2 c0 bb y) H → va_D (fun q : Nat => s.heap.size ≤ q) (mwS cB cI cJ cZ hm a9 z ++ wY cB cI cJ cZ cS a b1 b2 c0 bb y) → va_S (fun q : Nat => s.heap.size ≤ q) s.heap H locs → lv_has ls 4 [(3, .int (nI i)), (2, .ref hm), (1, .ref (c0 0)), (0, .ref b)] → W p l e room_1 s m #[Value.ref b] below meth c H locs 361 24806 (lw_Z below #[Value.ref b] s) (F0 m 930 ls []) := by
  obtain ⟨hx, hb, hr, hml, hown, hts, hX, hbl, hlocks, hgv⟩ := id C0
  have C : CallFix p m c code 4 s #[Value.ref b] lw_tbl R_law := ⟨hx, hb, hml, hown, hts⟩
  have hA : ∀ q : Nat, s.heap.size ≤ q → (fun q : Nat => s.heap.size ≤ q) q := fun _ h => h
  have hbA : ¬ (fun q : Nat => s.heap.size ≤ q) b := Nat.not_le.mpr hbl
  intro y z H locs ls hIK hIG hIR hBG hTP hP hD hS hl
  refine lv_aload_n hx hb dL_law_930 rfl (lv_at hl 2 rfl) ?_
  refine lv_aload_n hx hb dL_law_931 rfl (lv_at hl 3 rfl) ?_
  refine lv_iload_n hx hb dL_law_932 rfl (lv_at hl 0 rfl) ?_
  refine lv_iconst (v := 1) hx hb dL_law_933 (by decide) ?_
  refine lv_iadd hx hb dL_law_934 ?_
  refine q_top (y := nI (i + 1)) (nI_add i 1) ?_
  refine va_sld hx hb hX hbl hbA hS (vp_in_nI (by omega) (by omega)) dL_law_935 ?_
  refine lv_aload_n hx hb dL_law_936 rfl (lv_at hl 3 rfl) ?_
  refine lv_iload_n hx hb dL_law_937 rfl (lv_at hl 0 rfl) ?_
  refine lv_iconst (v := 2) hx hb dL_law_938 (by decide) ?_
  refine lv_iadd hx hb dL_law_939 ?_
  refine q_top (y := nI (i + 2)) (nI_add i 2) ?_
  refine va_sld hx hb hX hbl hbA hS (vp_in_nI (by omega) (by omega)) dL_law_940 ?_
  obtain ⟨⟨r1, y1⟩, hB1, hq1⟩ := ok_kX10_alike y.x (xs (Int32.toNatClampNeg (nI (i + 1)))) (xs (Int32.toNatClampNeg (nI (i + 2)))) (hIK) (hIG)
  have hP1 : va_P (dC, dI) vwCl (wX cB cI cJ cZ cS a b1 b2 c0 (rgP bb) (slP bb) y.x ++ (wPool cI bb y.r 43 ++ mwS cB cI cJ cZ hm a9 z)) H := sw1P hP
  have hD1 : va_D (fun q : Nat => s.heap.size ≤ q) (wX cB cI cJ cZ cS a b1 b2 c0 (rgP bb) (slP bb) y.x ++ (wPool cI bb y.r 43 ++ mwS cB cI cJ cZ hm a9 z)) := sw1D hD
  refine q_goiW (va_runV (As := [.int (xs (Int32.toNatClampNeg (nI (i + 1)))), .int (xs (Int32.toNatClampNeg (nI (i + 2))))]) (rest := []) C (ckX10_alike hB1 _) (cwV 2 hts glv_X10_alike rfl rfl rfl (by decide +kernel) ⟨Nat.le_of_ble_eq_true rfl, Nat.le_of_ble_eq_true rfl⟩) (q_preV hK (P_left hP1) (ci := 10) (q0 := 0) rfl rfl rfl (q_preF hN hK (P_left hP1) (D_left hD1))) rfl rfl hl.1 rfl (lv_room (Nat.le_of_ble_eq_true rfl)) dL_law_941 ⟨Nat.le_of_ble_eq_true rfl, Nat.le_of_ble_eq_true rfl⟩) hP1 hD1 hS hA (fun q1 w1 H locs hw hP hD hS => ?_)
  obtain ⟨hr1, hw⟩ := hw
  subst hw
  have hP : va_P (dC, dI) vwCl (mwS cB cI cJ cZ hm a9 z ++ wY cB cI cJ cZ cS a b1 b2 c0 bb (YS.mk y1 y.r)) H := sw3P hP
  have hD : va_D (fun q : Nat => s.heap.size ≤ q) (mwS cB cI cJ cZ hm a9 z ++ wY cB cI cJ cZ cS a b1 b2 c0 bb (YS.mk y1 y.r)) := sw3D hD
  refine lv_pop hx hb dL_law_944 rfl ?_
  refine lv_aload_n hx hb dL_law_945 rfl (lv_at hl 1 rfl) ?_
  refine lv_aload_n hx hb dL_law_946 rfl (lv_at hl 3 rfl) ?_
  refine lv_iload_n hx hb dL_law_947 rfl (lv_at hl 0 rfl) ?_
  refine lv_iconst (v := 1) hx hb dL_law_948 (by decide) ?_
  refine lv_iadd hx hb dL_law_949 ?_
  refine q_top (y := nI (i + 1)) (nI_add i 1) ?_
  refine va_sld hx hb hX hbl hbA hS (vp_in_nI (by omega) (by omega)) dL_law_950 ?_
  refine lv_aload_n hx hb dL_law_951 rfl (lv_at hl 3 rfl) ?_
  refine lv_iload_n hx hb dL_law_952 rfl (lv_at hl 0 rfl) ?_
  refine lv_iconst (v := 2) hx hb dL_law_953 (by decide) ?_
  refine lv_iadd hx hb dL_law_954 ?_
  refine q_top (y := nI (i + 2)) (nI_add i 2) ?_
  refine va_sld hx hb hX hbl hbA hS (vp_in_nI (by omega) (by omega)) dL_law_955 ?_
  obtain ⟨⟨r2, z2⟩, hB2, hq2⟩ := ok_r_alike z (xs (Int32.toNatClampNeg (nI (i + 1)))) (xs (Int32.toNatClampNeg (nI (i + 2)))) (hIR) (hBG)
  refine q_goiW (va_runV (As := [.int (xs (Int32.toNatClampNeg (nI (i + 1)))), .int (xs (Int32.toNatClampNeg (nI (i + 2))))]) (rest := []) C (cr_alike hB2 _) (cwV 2 hts glv_X11_alike rfl rfl rfl (by decide +kernel) ⟨Nat.le_of_ble_eq_true rfl, Nat.le_of_ble_eq_true rfl⟩) (q_preV hK (P_left hP) (ci := 11) (q0 := 0) rfl rfl rfl (q_preF hN hK (P_left hP) (D_left hD))) rfl rfl hl.1 rfl (lv_room (Nat.le_of_ble_eq_true rfl)) dL_law_956 ⟨Nat.le_of_ble_eq_true rfl, Nat.le_of_ble_eq_true rfl⟩) hP hD hS hA (fun q2 w2 H locs hw hP hD hS => ?_)
  obtain ⟨hr2, hw⟩ := hw
  subst hw
  refine lv_pop hx hb dL_law_959 rfl ?_
  refine lv_goto (tgt := 1489) hx hb dL_law_960 (by decide) ?_
  exact kk (YS.mk y1 y.r) z2 H locs ls (hq1.1) (hq1.2.2.1) (hq2.1) ((hBG).fr (hq2.2.1) (by decide)) ⟨tpr_keep (hq1.2.1) (hq2.2.1) (by decide) (by decide) hTP.1, REL.keep hTP.2 (fr_kX10_alike _ _ _ _ _ ⟨rfl, rfl⟩ _ hB1).1 (fr_kX10_alike _ _ _ _ _ ⟨rfl, rfl⟩ _ hB1).2 (hq1.2.1) (hq2.2.1) ⟨by decide, by decide⟩ ⟨by decide, by decide⟩⟩ hP hD hS hl

set_option maxHeartbeats 4000000 in
set_option maxRecDepth 100000 in
theorem law_case_27 {p : Program} {e : Env} {s : State} {m : MethodId} {below : List Frame} {meth : Method} {c : Code} (l : Launch) {b L : Nat} {xs : Nat → Int32} (hL : L ≤ 3072) (C0 : lw_At p s m meth c b L xs) (dC : Nat → ClassId) (dI : Nat → Nat → Nat) (cB cI cJ cZ cS : ClassId) (hK : va_K (dC, dI) vwCl (tysA cB cI cJ cZ cS) s) (hN : nw_ok s) (ak av : Nat) (hXS : xS ak av (fun q : Nat => s.heap.size ≤ q) s s.heap) (a b1 b2 c0 : Nat → Nat) (bb : Nat → Nat → Nat) (hm : Nat) (a9 : Nat → Nat) (i : Nat) (hi : i + 6 ≤ L) (kk : ∀ (y : YS) (z : RS) (H : Heap) (locs : List Loc) (ls : Array Slot), InvK y.x.k → InvG y.x.g → InvR z → Big z → TP y z → va_P (dC, dI) vwCl (mwS cB cI cJ cZ hm a9 z ++ wY cB cI cJ cZ cS a b1 b2 c0 bb y) H → va_D (fun q : Nat => s.heap.size ≤ q) (mwS cB cI cJ cZ hm a9 z ++ wY cB cI cJ cZ cS a b1 b2 c0 bb y) → va_S (fun q : Nat => s.heap.size ≤ q) s.heap H locs → lv_has ls 4 [(3, .int (nI i)), (2, .ref hm), (1, .ref (c0 0)), (0, .ref b)] → W p l e room_1 s m #[Value.ref b] below meth c H locs 361 24806 (lw_Z below #[Value.ref b] s) (F0 m 1489 ls [])) : ∀ (y : YS) (z : RS) (H : Heap) (locs : List Loc) (ls : Array Slot), InvK y.x.k → InvG y.x.g → InvR z → Big z → TP y z → va_P (dC, dI) vwCl (mwS cB cI cJ cZ hm a9 z ++ wY cB cI cJ cZ cS a b1 b2 c0 bb y) H → va_D (fun q : Nat => s.heap.size ≤ q) (mwS cB cI cJ cZ hm a9 z ++ wY cB cI cJ cZ cS a b1 b2 c0 bb y) → va_S (fun q : Nat => s.heap.size ≤ q) s.heap H locs → lv_has ls 4 [(3, .int (nI i)), (2, .ref hm), (1, .ref (c0 0)), (0, .ref b)] → W p l e room_1 s m #[Value.ref b] below meth c H locs 361 24806 (lw_Z below #[Value.ref b] s) (F0 m 963 ls []) := by
  obtain ⟨hx, hb, hr, hml, hown, hts, hX, hbl, hlocks, hgv⟩ := id C0
  have C : CallFix p m c code 4 s #[Value.ref b] lw_tbl R_law := ⟨hx, hb, hml, hown, hts⟩
  have hA : ∀ q : Nat, s.heap.size ≤ q → (fun q : Nat => s.heap.size ≤ q) q := fun _ h => h
  have hbA : ¬ (fun q : Nat => s.heap.size ≤ q) b := Nat.not_le.mpr hbl
  intro y z H locs ls hIK hIG hIR hBG hTP hP hD hS hl
  refine lv_aload_n hx hb dL_law_963 rfl (lv_at hl 2 rfl) ?_
  refine lv_aload_n hx hb dL_law_964 rfl (lv_at hl 3 rfl) ?_
  refine lv_iload_n hx hb dL_law_965 rfl (lv_at hl 0 rfl) ?_
  refine lv_iconst (v := 1) hx hb dL_law_966 (by decide) ?_
  refine lv_iadd hx hb dL_law_967 ?_
  refine q_top (y := nI (i + 1)) (nI_add i 1) ?_
  refine va_sld hx hb hX hbl hbA hS (vp_in_nI (by omega) (by omega)) dL_law_968 ?_
  obtain ⟨⟨r1, y1⟩, hB1, hq1⟩ := ok_kX10_sunk y.x (xs (Int32.toNatClampNeg (nI (i + 1)))) (hIK) (hIG)
  have hP1 : va_P (dC, dI) vwCl (wX cB cI cJ cZ cS a b1 b2 c0 (rgP bb) (slP bb) y.x ++ (wPool cI bb y.r 43 ++ mwS cB cI cJ cZ hm a9 z)) H := sw1P hP
  have hD1 : va_D (fun q : Nat => s.heap.size ≤ q) (wX cB cI cJ cZ cS a b1 b2 c0 (rgP bb) (slP bb) y.x ++ (wPool cI bb y.r 43 ++ mwS cB cI cJ cZ hm a9 z)) := sw1D hD
  refine q_goiW (va_runV (As := [.int (xs (Int32.toNatClampNeg (nI (i + 1))))]) (rest := []) C (ckX10_sunk hB1 _) (cwV 1 hts glv_X10_sunk rfl rfl rfl (by decide +kernel) ⟨Nat.le_of_ble_eq_true rfl, Nat.le_of_ble_eq_true rfl⟩) (q_preV hK (P_left hP1) (ci := 10) (q0 := 0) rfl rfl rfl (q_preF hN hK (P_left hP1) (D_left hD1))) rfl rfl hl.1 rfl (lv_room (Nat.le_of_ble_eq_true rfl)) dL_law_969 ⟨Nat.le_of_ble_eq_true rfl, Nat.le_of_ble_eq_true rfl⟩) hP1 hD1 hS hA (fun q1 w1 H locs hw hP hD hS => ?_)
  obtain ⟨hr1, hw⟩ := hw
  subst hw
  have hP : va_P (dC, dI) vwCl (mwS cB cI cJ cZ hm a9 z ++ wY cB cI cJ cZ cS a b1 b2 c0 bb (YS.mk y1 y.r)) H := sw3P hP
  have hD : va_D (fun q : Nat => s.heap.size ≤ q) (mwS cB cI cJ cZ hm a9 z ++ wY cB cI cJ cZ cS a b1 b2 c0 bb (YS.mk y1 y.r)) := sw3D hD
  refine lv_pop hx hb dL_law_972 rfl ?_
  refine lv_aload_n hx hb dL_law_973 rfl (lv_at hl 1 rfl) ?_
  refine lv_aload_n hx hb dL_law_974 rfl (lv_at hl 3 rfl) ?_
  refine lv_iload_n hx hb dL_law_975 rfl (lv_at hl 0 rfl) ?_
  refine lv_iconst (v := 1) hx hb dL_law_976 (by decide) ?_
  refine lv_iadd hx hb dL_law_977 ?_
  refine q_top (y := nI (i + 1)) (nI_add i 1) ?_
  refine va_sld hx hb hX hbl hbA hS (vp_in_nI (by omega) (by omega)) dL_law_978 ?_
  obtain ⟨⟨r2, z2⟩, hB2, hq2⟩ := ok_r_sunk z (xs (Int32.toNatClampNeg (nI (i + 1)))) (hIR) (hBG)
  refine q_goiW (va_runV (As := [.int (xs (Int32.toNatClampNeg (nI (i + 1))))]) (rest := []) C (cr_sunk hB2 _) (cwV 1 hts glv_X11_sunk rfl rfl rfl (by decide +kernel) ⟨Nat.le_of_ble_eq_true rfl, Nat.le_of_ble_eq_true rfl⟩) (q_preV hK (P_left hP) (ci := 11) (q0 := 0) rfl rfl rfl (q_preF hN hK (P_left hP) (D_left hD))) rfl rfl hl.1 rfl (lv_room (Nat.le_of_ble_eq_true rfl)) dL_law_979 ⟨Nat.le_of_ble_eq_true rfl, Nat.le_of_ble_eq_true rfl⟩) hP hD hS hA (fun q2 w2 H locs hw hP hD hS => ?_)
  obtain ⟨hr2, hw⟩ := hw
  subst hw
  refine lv_pop hx hb dL_law_982 rfl ?_
  refine lv_goto (tgt := 1489) hx hb dL_law_983 (by decide) ?_
  exact kk (YS.mk y1 y.r) z2 H locs ls (hq1.1) (hq1.2.2.1) (hq2.1) ((hBG).fr (hq2.2.1) (by decide)) ⟨tpr_keep (hq1.2.1) (hq2.2.1) (by decide) (by decide) hTP.1, REL.keep hTP.2 (fr_kX10_sunk _ _ _ _ ⟨rfl, rfl⟩ _ hB1).1 (fr_kX10_sunk _ _ _ _ ⟨rfl, rfl⟩ _ hB1).2 (hq1.2.1) (hq2.2.1) ⟨by decide, by decide⟩ ⟨by decide, by decide⟩⟩ hP hD hS hl

set_option maxHeartbeats 4000000 in
set_option maxRecDepth 100000 in
theorem law_case_28 {p : Program} {e : Env} {s : State} {m : MethodId} {below : List Frame} {meth : Method} {c : Code} (l : Launch) {b L : Nat} {xs : Nat → Int32} (hL : L ≤ 3072) (C0 : lw_At p s m meth c b L xs) (dC : Nat → ClassId) (dI : Nat → Nat → Nat) (cB cI cJ cZ cS : ClassId) (hK : va_K (dC, dI) vwCl (tysA cB cI cJ cZ cS) s) (hN : nw_ok s) (ak av : Nat) (hXS : xS ak av (fun q : Nat => s.heap.size ≤ q) s s.heap) (a b1 b2 c0 : Nat → Nat) (bb : Nat → Nat → Nat) (hm : Nat) (a9 : Nat → Nat) (i : Nat) (hi : i + 6 ≤ L) (kk : ∀ (y : YS) (z : RS) (H : Heap) (locs : List Loc) (ls : Array Slot), InvK y.x.k → InvG y.x.g → InvR z → Big z → TP y z → va_P (dC, dI) vwCl (mwS cB cI cJ cZ hm a9 z ++ wY cB cI cJ cZ cS a b1 b2 c0 bb y) H → va_D (fun q : Nat => s.heap.size ≤ q) (mwS cB cI cJ cZ hm a9 z ++ wY cB cI cJ cZ cS a b1 b2 c0 bb y) → va_S (fun q : Nat => s.heap.size ≤ q) s.heap H locs → lv_has ls 4 [(3, .int (nI i)), (2, .ref hm), (1, .ref (c0 0)), (0, .ref b)] → W p l e room_1 s m #[Value.ref b] below meth c H locs 361 24806 (lw_Z below #[Value.ref b] s) (F0 m 1489 ls [])) : ∀ (y : YS) (z : RS) (H : Heap) (locs : List Loc) (ls : Array Slot), InvK y.x.k → InvG y.x.g → InvR z → Big z → TP y z → va_P (dC, dI) vwCl (mwS cB cI cJ cZ hm a9 z ++ wY cB cI cJ cZ cS a b1 b2 c0 bb y) H → va_D (fun q : Nat => s.heap.size ≤ q) (mwS cB cI cJ cZ hm a9 z ++ wY cB cI cJ cZ cS a b1 b2 c0 bb y) → va_S (fun q : Nat => s.heap.size ≤ q) s.heap H locs → lv_has ls 4 [(3, .int (nI i)), (2, .ref hm), (1, .ref (c0 0)), (0, .ref b)] → W p l e room_1 s m #[Value.ref b] below meth c H locs 361 24806 (lw_Z below #[Value.ref b] s) (F0 m 986 ls []) := by
  obtain ⟨hx, hb, hr, hml, hown, hts, hX, hbl, hlocks, hgv⟩ := id C0
  have C : CallFix p m c code 4 s #[Value.ref b] lw_tbl R_law := ⟨hx, hb, hml, hown, hts⟩
  have hA : ∀ q : Nat, s.heap.size ≤ q → (fun q : Nat => s.heap.size ≤ q) q := fun _ h => h
  have hbA : ¬ (fun q : Nat => s.heap.size ≤ q) b := Nat.not_le.mpr hbl
  intro y z H locs ls hIK hIG hIR hBG hTP hP hD hS hl
  refine lv_aload_n hx hb dL_law_986 rfl (lv_at hl 2 rfl) ?_
  obtain ⟨⟨r1, y1⟩, hB1, hq1⟩ := ok_kX10_stuck y.x (hIK) (hIG)
  have hP1 : va_P (dC, dI) vwCl (wX cB cI cJ cZ cS a b1 b2 c0 (rgP bb) (slP bb) y.x ++ (wPool cI bb y.r 43 ++ mwS cB cI cJ cZ hm a9 z)) H := sw1P hP
  have hD1 : va_D (fun q : Nat => s.heap.size ≤ q) (wX cB cI cJ cZ cS a b1 b2 c0 (rgP bb) (slP bb) y.x ++ (wPool cI bb y.r 43 ++ mwS cB cI cJ cZ hm a9 z)) := sw1D hD
  refine q_goiW (va_runV (As := []) (rest := []) C (ckX10_stuck hB1 _) (cwV 0 hts glv_X10_stuck rfl rfl rfl (by decide +kernel) ⟨Nat.le_of_ble_eq_true rfl, Nat.le_of_ble_eq_true rfl⟩) (q_preV hK (P_left hP1) (ci := 10) (q0 := 0) rfl rfl rfl (q_preF hN hK (P_left hP1) (D_left hD1))) rfl rfl hl.1 rfl (lv_room (Nat.le_of_ble_eq_true rfl)) dL_law_987 ⟨Nat.le_of_ble_eq_true rfl, Nat.le_of_ble_eq_true rfl⟩) hP1 hD1 hS hA (fun q1 w1 H locs hw hP hD hS => ?_)
  obtain ⟨hr1, hw⟩ := hw
  subst hw
  have hP : va_P (dC, dI) vwCl (mwS cB cI cJ cZ hm a9 z ++ wY cB cI cJ cZ cS a b1 b2 c0 bb (YS.mk y1 y.r)) H := sw3P hP
  have hD : va_D (fun q : Nat => s.heap.size ≤ q) (mwS cB cI cJ cZ hm a9 z ++ wY cB cI cJ cZ cS a b1 b2 c0 bb (YS.mk y1 y.r)) := sw3D hD
  refine lv_pop hx hb dL_law_990 rfl ?_
  refine lv_aload_n hx hb dL_law_991 rfl (lv_at hl 1 rfl) ?_
  obtain ⟨⟨r2, z2⟩, hB2, hq2⟩ := ok_r_stuck z (hIR) (hBG)
  refine q_goiW (va_runV (As := []) (rest := []) C (cr_stuck hB2 _) (cwV 0 hts glv_X11_stuck rfl rfl rfl (by decide +kernel) ⟨Nat.le_of_ble_eq_true rfl, Nat.le_of_ble_eq_true rfl⟩) (q_preV hK (P_left hP) (ci := 11) (q0 := 0) rfl rfl rfl (q_preF hN hK (P_left hP) (D_left hD))) rfl rfl hl.1 rfl (lv_room (Nat.le_of_ble_eq_true rfl)) dL_law_992 ⟨Nat.le_of_ble_eq_true rfl, Nat.le_of_ble_eq_true rfl⟩) hP hD hS hA (fun q2 w2 H locs hw hP hD hS => ?_)
  obtain ⟨hr2, hw⟩ := hw
  subst hw
  refine lv_pop hx hb dL_law_995 rfl ?_
  refine lv_goto (tgt := 1489) hx hb dL_law_996 (by decide) ?_
  exact kk (YS.mk y1 y.r) z2 H locs ls (hq1.1) (hq1.2.2.1) (hq2.1) ((hBG).fr (hq2.2.1) (by decide)) ⟨tpr_keep (hq1.2.1) (hq2.2.1) (by decide) (by decide) hTP.1, REL.keep hTP.2 (fr_kX10_stuck _ _ _ ⟨rfl, rfl⟩ _ hB1).1 (fr_kX10_stuck _ _ _ ⟨rfl, rfl⟩ _ hB1).2 (hq1.2.1) (hq2.2.1) ⟨by decide, by decide⟩ ⟨by decide, by decide⟩⟩ hP hD hS hl

set_option maxHeartbeats 4000000 in
set_option maxRecDepth 100000 in
theorem law_case_29 {p : Program} {e : Env} {s : State} {m : MethodId} {below : List Frame} {meth : Method} {c : Code} (l : Launch) {b L : Nat} {xs : Nat → Int32} (hL : L ≤ 3072) (C0 : lw_At p s m meth c b L xs) (dC : Nat → ClassId) (dI : Nat → Nat → Nat) (cB cI cJ cZ cS : ClassId) (hK : va_K (dC, dI) vwCl (tysA cB cI cJ cZ cS) s) (hN : nw_ok s) (ak av : Nat) (hXS : xS ak av (fun q : Nat => s.heap.size ≤ q) s s.heap) (a b1 b2 c0 : Nat → Nat) (bb : Nat → Nat → Nat) (hm : Nat) (a9 : Nat → Nat) (i : Nat) (hi : i + 6 ≤ L) (kk : ∀ (y : YS) (z : RS) (H : Heap) (locs : List Loc) (ls : Array Slot), InvK y.x.k → InvG y.x.g → InvR z → Big z → TP y z → va_P (dC, dI) vwCl (mwS cB cI cJ cZ hm a9 z ++ wY cB cI cJ cZ cS a b1 b2 c0 bb y) H → va_D (fun q : Nat => s.heap.size ≤ q) (mwS cB cI cJ cZ hm a9 z ++ wY cB cI cJ cZ cS a b1 b2 c0 bb y) → va_S (fun q : Nat => s.heap.size ≤ q) s.heap H locs → lv_has ls 4 [(3, .int (nI i)), (2, .ref hm), (1, .ref (c0 0)), (0, .ref b)] → W p l e room_1 s m #[Value.ref b] below meth c H locs 361 24806 (lw_Z below #[Value.ref b] s) (F0 m 1489 ls [])) : ∀ (y : YS) (z : RS) (H : Heap) (locs : List Loc) (ls : Array Slot), InvK y.x.k → InvG y.x.g → InvR z → Big z → TP y z → va_P (dC, dI) vwCl (mwS cB cI cJ cZ hm a9 z ++ wY cB cI cJ cZ cS a b1 b2 c0 bb y) H → va_D (fun q : Nat => s.heap.size ≤ q) (mwS cB cI cJ cZ hm a9 z ++ wY cB cI cJ cZ cS a b1 b2 c0 bb y) → va_S (fun q : Nat => s.heap.size ≤ q) s.heap H locs → lv_has ls 4 [(3, .int (nI i)), (2, .ref hm), (1, .ref (c0 0)), (0, .ref b)] → W p l e room_1 s m #[Value.ref b] below meth c H locs 361 24806 (lw_Z below #[Value.ref b] s) (F0 m 999 ls []) := by
  obtain ⟨hx, hb, hr, hml, hown, hts, hX, hbl, hlocks, hgv⟩ := id C0
  have C : CallFix p m c code 4 s #[Value.ref b] lw_tbl R_law := ⟨hx, hb, hml, hown, hts⟩
  have hA : ∀ q : Nat, s.heap.size ≤ q → (fun q : Nat => s.heap.size ≤ q) q := fun _ h => h
  have hbA : ¬ (fun q : Nat => s.heap.size ≤ q) b := Nat.not_le.mpr hbl
  intro y z H locs ls hIK hIG hIR hBG hTP hP hD hS hl
  refine lv_aload_n hx hb dL_law_999 rfl (lv_at hl 2 rfl) ?_
  refine lv_aload_n hx hb dL_law_1000 rfl (lv_at hl 3 rfl) ?_
  refine lv_iload_n hx hb dL_law_1001 rfl (lv_at hl 0 rfl) ?_
  refine lv_iconst (v := 1) hx hb dL_law_1002 (by decide) ?_
  refine lv_iadd hx hb dL_law_1003 ?_
  refine q_top (y := nI (i + 1)) (nI_add i 1) ?_
  refine va_sld hx hb hX hbl hbA hS (vp_in_nI (by omega) (by omega)) dL_law_1004 ?_
  obtain ⟨⟨r1, y1⟩, hB1, hq1⟩ := ok_kX10_spread y.x (xs (Int32.toNatClampNeg (nI (i + 1)))) (hIK) (hIG)
  have hP1 : va_P (dC, dI) vwCl (wX cB cI cJ cZ cS a b1 b2 c0 (rgP bb) (slP bb) y.x ++ (wPool cI bb y.r 43 ++ mwS cB cI cJ cZ hm a9 z)) H := sw1P hP
  have hD1 : va_D (fun q : Nat => s.heap.size ≤ q) (wX cB cI cJ cZ cS a b1 b2 c0 (rgP bb) (slP bb) y.x ++ (wPool cI bb y.r 43 ++ mwS cB cI cJ cZ hm a9 z)) := sw1D hD
  refine q_goiW (va_runV (As := [.int (xs (Int32.toNatClampNeg (nI (i + 1))))]) (rest := []) C (ckX10_spread hB1 _) (cwV 1 hts glv_X10_spread rfl rfl rfl (by decide +kernel) ⟨Nat.le_of_ble_eq_true rfl, Nat.le_of_ble_eq_true rfl⟩) (q_preV hK (P_left hP1) (ci := 10) (q0 := 0) rfl rfl rfl (q_preF hN hK (P_left hP1) (D_left hD1))) rfl rfl hl.1 rfl (lv_room (Nat.le_of_ble_eq_true rfl)) dL_law_1005 ⟨Nat.le_of_ble_eq_true rfl, Nat.le_of_ble_eq_true rfl⟩) hP1 hD1 hS hA (fun q1 w1 H locs hw hP hD hS => ?_)
  obtain ⟨hr1, hw⟩ := hw
  subst hw
  have hP : va_P (dC, dI) vwCl (mwS cB cI cJ cZ hm a9 z ++ wY cB cI cJ cZ cS a b1 b2 c0 bb (YS.mk y1 y.r)) H := sw3P hP
  have hD : va_D (fun q : Nat => s.heap.size ≤ q) (mwS cB cI cJ cZ hm a9 z ++ wY cB cI cJ cZ cS a b1 b2 c0 bb (YS.mk y1 y.r)) := sw3D hD
  refine lv_pop hx hb dL_law_1008 rfl ?_
  refine lv_aload_n hx hb dL_law_1009 rfl (lv_at hl 1 rfl) ?_
  refine lv_aload_n hx hb dL_law_1010 rfl (lv_at hl 3 rfl) ?_
  refine lv_iload_n hx hb dL_law_1011 rfl (lv_at hl 0 rfl) ?_
  refine lv_iconst (v := 1) hx hb dL_law_1012 (by decide) ?_
  refine lv_iadd hx hb dL_law_1013 ?_
  refine q_top (y := nI (i + 1)) (nI_add i 1) ?_
  refine va_sld hx hb hX hbl hbA hS (vp_in_nI (by omega) (by omega)) dL_law_1014 ?_
  obtain ⟨⟨r2, z2⟩, hB2, hq2⟩ := ok_r_spread z (xs (Int32.toNatClampNeg (nI (i + 1)))) (hIR)
  refine q_goiW (va_runV (As := [.int (xs (Int32.toNatClampNeg (nI (i + 1))))]) (rest := []) C (cr_spread hB2 _) (cwV 1 hts glv_X11_spread rfl rfl rfl (by decide +kernel) ⟨Nat.le_of_ble_eq_true rfl, Nat.le_of_ble_eq_true rfl⟩) (q_preV hK (P_left hP) (ci := 11) (q0 := 0) rfl rfl rfl (q_preF hN hK (P_left hP) (D_left hD))) rfl rfl hl.1 rfl (lv_room (Nat.le_of_ble_eq_true rfl)) dL_law_1015 ⟨Nat.le_of_ble_eq_true rfl, Nat.le_of_ble_eq_true rfl⟩) hP hD hS hA (fun q2 w2 H locs hw hP hD hS => ?_)
  obtain ⟨hr2, hw⟩ := hw
  subst hw
  refine lv_pop hx hb dL_law_1018 rfl ?_
  refine lv_goto (tgt := 1489) hx hb dL_law_1019 (by decide) ?_
  exact kk (YS.mk y1 y.r) z2 H locs ls (hq1.1) (hq1.2.2.1) (hq2.1) ((hBG).fr (hq2.2.1) (by decide)) ⟨tpr_keep (hq1.2.1) (hq2.2.1) (by decide) (by decide) hTP.1, REL.keep hTP.2 (fr_kX10_spread _ _ _ _ ⟨rfl, rfl⟩ _ hB1).1 (fr_kX10_spread _ _ _ _ ⟨rfl, rfl⟩ _ hB1).2 (hq1.2.1) (hq2.2.1) ⟨by decide, by decide⟩ ⟨by decide, by decide⟩⟩ hP hD hS hl
