/-! the law: its cases -/
section LW72
variable {G : xG} {l : Launch} {d bc bs i : Nat} {h : xH} {n : Nat} {P : Option Value → xH → Nat → Prop} {ad tg : Nat → Nat} {ts : List sT} {ys : List Int32} {us : List sU} {cs : List Int32} {as : List sA}
set_option maxRecDepth 20000 in
set_option maxHeartbeats 1000000 in
theorem lw_c16 (hN : xN G < 2 ^ 31) (hi : i + 5 ≤ xN G) (hS : St h n ad tg ts ys us cs as) (nx : ∀ bc' bs' h' n' ad' tg' ts' ys' us' cs' as', bc ≤ bc' → bs ≤ bs' → ad' 0 = ad 0 → ad' 1000 = ad 1000 → St h' n' ad' tg' ts' ys' us' cs' as' → ev_Run G l (d + 7) bc' bs' mLw_law 1168 [some (.ref (xb G)), some (.ref (ad 0)), some (.ref (ad 1000)), some (.int (nI i))] [] h' n' P) : ev_Run G l (d + 7) (bc + 4) (bs + 171) mLw_law 822 [some (.ref (xb G)), some (.ref (ad 0)), some (.ref (ad 1000)), some (.int (nI i))] [] h n P := by
  obtain ⟨hI, ⟨lr, lq, X, N⟩, S, L, ⟨pg, B⟩, iv, ia, la, MH, MT, MY, MU, MG⟩ := id hS
  have h0 := X.2.1
  have M0 : MoK h h ad tg ts.length iv ia la := ⟨X.1, MH, fun _ _ => rfl⟩
  refine ev_aload_n dLw_law_822 rfl rfl ?_
  refine ev_aload_n dLw_law_823 rfl rfl ?_
  refine ev_iload_n dLw_law_824 rfl rfl ?_
  refine ev_iconst (v := nI 1) dLw_law_825 (by decide) ?_
  refine ev_iadd dLw_law_826 ?_
  refine ev_sld dLw_law_827 (nI_add _ _) (by omega) hN ?_
  refine ev_aload_n dLw_law_828 rfl rfl ?_
  refine ev_iload_n dLw_law_829 rfl rfl ?_
  refine ev_iconst (v := nI 2) dLw_law_830 (by decide) ?_
  refine ev_iadd dLw_law_831 ?_
  refine ev_sld dLw_law_832 (nI_add _ _) (by omega) hN ?_
  refine ev_aload_n dLw_law_833 rfl rfl ?_
  refine ev_iload_n dLw_law_834 rfl rfl ?_
  refine ev_iconst (v := nI 3) dLw_law_835 (by decide) ?_
  refine ev_iadd dLw_law_836 ?_
  refine ev_sld dLw_law_837 (nI_add _ _) (by omega) hN ?_
  refine cz_BL_name dLw_law_838 lLw_91 h0 (Nat.le_of_ble_eq_true rfl) (BL_name_ok X N ?_)
  refine ev_aload_n dLw_law_841 rfl rfl ?_
  refine ev_aload_n dLw_law_842 rfl rfl ?_
  refine ev_iload_n dLw_law_843 rfl rfl ?_
  refine ev_iconst (v := nI 1) dLw_law_844 (by decide) ?_
  refine ev_iadd dLw_law_845 ?_
  refine ev_sld dLw_law_846 (nI_add _ _) (by omega) hN ?_
  refine ev_aload_n dLw_law_847 rfl rfl ?_
  refine ev_iload_n dLw_law_848 rfl rfl ?_
  refine ev_iconst (v := nI 2) dLw_law_849 (by decide) ?_
  refine ev_iadd dLw_law_850 ?_
  refine ev_sld dLw_law_851 (nI_add _ _) (by omega) hN ?_
  refine ev_aload_n dLw_law_852 rfl rfl ?_
  refine ev_iload_n dLw_law_853 rfl rfl ?_
  refine ev_iconst (v := nI 3) dLw_law_854 (by decide) ?_
  refine ev_iadd dLw_law_855 ?_
  refine ev_sld dLw_law_856 (nI_add _ _) (by omega) hN ?_
  refine cz_Mo_name dLw_law_857 lLw_95 M0.2.1.1 (Nat.le_of_ble_eq_true rfl) (Mo_name_ok M0 MT hI MU ?_)
  refine ev_icmp_eq (tgt := 1168) dLw_law_860 (by decide) (fun c860 => ?_) (fun c860 => absurd (rfl) c860)
  exact nx (bc + 4) (bs + 171) h n ad tg ts ys us cs as (by omega) (by omega) rfl rfl hS
set_option maxRecDepth 20000 in
set_option maxHeartbeats 1000000 in
theorem lw_c17 (hN : xN G < 2 ^ 31) (hi : i + 5 ≤ xN G) (hS : St h n ad tg ts ys us cs as) (nx : ∀ bc' bs' h' n' ad' tg' ts' ys' us' cs' as', bc ≤ bc' → bs ≤ bs' → ad' 0 = ad 0 → ad' 1000 = ad 1000 → St h' n' ad' tg' ts' ys' us' cs' as' → ev_Run G l (d + 7) bc' bs' mLw_law 1168 [some (.ref (xb G)), some (.ref (ad 0)), some (.ref (ad 1000)), some (.int (nI i))] [] h' n' P) : ev_Run G l (d + 7) (bc + 4) (bs + 171) mLw_law 865 [some (.ref (xb G)), some (.ref (ad 0)), some (.ref (ad 1000)), some (.int (nI i))] [] h n P := by
  obtain ⟨hI, ⟨lr, lq, X, N⟩, S, L, ⟨pg, B⟩, iv, ia, la, MH, MT, MY, MU, MG⟩ := id hS
  have h0 := X.2.1
  have M0 : MoK h h ad tg ts.length iv ia la := ⟨X.1, MH, fun _ _ => rfl⟩
  refine ev_aload_n dLw_law_865 rfl rfl ?_
  refine ev_aload_n dLw_law_866 rfl rfl ?_
  refine ev_iload_n dLw_law_867 rfl rfl ?_
  refine ev_iconst (v := nI 1) dLw_law_868 (by decide) ?_
  refine ev_iadd dLw_law_869 ?_
  refine ev_sld dLw_law_870 (nI_add _ _) (by omega) hN ?_
  refine cz_BL_certificate dLw_law_871 lLw_96 h0 (Nat.le_of_ble_eq_true rfl) (BL_certificate_ok X L (fun h1 L1 o1 => ?_))
  have M1 := M_cp X.1 MH (off_cp X.1 o1 [19, 20, 21, 22, 23] rfl (by decide) (Or.inr ⟨by omega, by omega⟩) (by decide))
  refine ev_aload_n dLw_law_874 rfl rfl ?_
  refine ev_aload_n dLw_law_875 rfl rfl ?_
  refine ev_iload_n dLw_law_876 rfl rfl ?_
  refine ev_iconst (v := nI 1) dLw_law_877 (by decide) ?_
  refine ev_iadd dLw_law_878 ?_
  refine ev_sld dLw_law_879 (nI_add _ _) (by omega) hN ?_
  refine cz_Mo_certificate dLw_law_880 lLw_99 M1.2.1.1 (Nat.le_of_ble_eq_true rfl) (Mo_certificate_ok M1 MG (fun h2 iv2 ia2 la2 M2 G2 r2 => ?_))
  refine ev_icmp_eq (tgt := 1168) dLw_law_883 (by decide) (fun c883 => ?_) (fun c883 => absurd (rfl) c883)
  exact nx (bc + 4) (bs + 171) h2 n ad tg ts ys us _ _ (by omega) (by omega) rfl rfl (St_L hI X N S L1 B o1 M2 MT MY MU G2 r2)
set_option maxRecDepth 20000 in
set_option maxHeartbeats 1000000 in
theorem lw_c18 (hN : xN G < 2 ^ 31) (hi : i + 5 ≤ xN G) (hS : St h n ad tg ts ys us cs as) (nx : ∀ bc' bs' h' n' ad' tg' ts' ys' us' cs' as', bc ≤ bc' → bs ≤ bs' → ad' 0 = ad 0 → ad' 1000 = ad 1000 → St h' n' ad' tg' ts' ys' us' cs' as' → ev_Run G l (d + 7) bc' bs' mLw_law 1168 [some (.ref (xb G)), some (.ref (ad 0)), some (.ref (ad 1000)), some (.int (nI i))] [] h' n' P) : ev_Run G l (d + 7) (bc + 4) (bs + 171) mLw_law 888 [some (.ref (xb G)), some (.ref (ad 0)), some (.ref (ad 1000)), some (.int (nI i))] [] h n P := by
  obtain ⟨hI, ⟨lr, lq, X, N⟩, S, L, ⟨pg, B⟩, iv, ia, la, MH, MT, MY, MU, MG⟩ := id hS
  have h0 := X.2.1
  have M0 : MoK h h ad tg ts.length iv ia la := ⟨X.1, MH, fun _ _ => rfl⟩
  refine ev_aload_n dLw_law_888 rfl rfl ?_
  refine ev_aload_n dLw_law_889 rfl rfl ?_
  refine ev_iload_n dLw_law_890 rfl rfl ?_
  refine ev_iconst (v := nI 1) dLw_law_891 (by decide) ?_
  refine ev_iadd dLw_law_892 ?_
  refine ev_sld dLw_law_893 (nI_add _ _) (by omega) hN ?_
  refine ev_aload_n dLw_law_894 rfl rfl ?_
  refine ev_iload_n dLw_law_895 rfl rfl ?_
  refine ev_iconst (v := nI 2) dLw_law_896 (by decide) ?_
  refine ev_iadd dLw_law_897 ?_
  refine ev_sld dLw_law_898 (nI_add _ _) (by omega) hN ?_
  refine ev_i2l dLw_law_899 ?_
  refine ev_bipush (v := nI 32) dLw_law_900 (by decide) ?_
  refine ev_lshl dLw_law_902 ?_
  refine ev_aload_n dLw_law_903 rfl rfl ?_
  refine ev_iload_n dLw_law_904 rfl rfl ?_
  refine ev_iconst (v := nI 3) dLw_law_905 (by decide) ?_
  refine ev_iadd dLw_law_906 ?_
  refine ev_sld dLw_law_907 (nI_add _ _) (by omega) hN ?_
  refine ev_i2l dLw_law_908 ?_
  refine ev_ldc2 (v := lN 4294967295) dLw_law_909 qLw_13 ?_
  refine ev_land dLw_law_912 ?_
  refine ev_lor dLw_law_913 ?_
  refine ev_aload_n dLw_law_914 rfl rfl ?_
  refine ev_iload_n dLw_law_915 rfl rfl ?_
  refine ev_iconst (v := nI 4) dLw_law_916 (by decide) ?_
  refine ev_iadd dLw_law_917 ?_
  refine ev_sld dLw_law_918 (nI_add _ _) (by omega) hN ?_
  refine cz_BL_credit dLw_law_919 lLw_100 h0 (Nat.le_of_ble_eq_true rfl) (BL_credit_ok X L (fun h1 L1 o1 => ?_))
  have M1 := M_cp X.1 MH (off_cp X.1 o1 [19, 20, 21, 22, 23] rfl (by decide) (Or.inr ⟨by omega, by omega⟩) (by decide))
  refine ev_aload_n dLw_law_922 rfl rfl ?_
  refine ev_aload_n dLw_law_923 rfl rfl ?_
  refine ev_iload_n dLw_law_924 rfl rfl ?_
  refine ev_iconst (v := nI 1) dLw_law_925 (by decide) ?_
  refine ev_iadd dLw_law_926 ?_
  refine ev_sld dLw_law_927 (nI_add _ _) (by omega) hN ?_
  refine ev_aload_n dLw_law_928 rfl rfl ?_
  refine ev_iload_n dLw_law_929 rfl rfl ?_
  refine ev_iconst (v := nI 2) dLw_law_930 (by decide) ?_
  refine ev_iadd dLw_law_931 ?_
  refine ev_sld dLw_law_932 (nI_add _ _) (by omega) hN ?_
  refine ev_i2l dLw_law_933 ?_
  refine ev_bipush (v := nI 32) dLw_law_934 (by decide) ?_
  refine ev_lshl dLw_law_936 ?_
  refine ev_aload_n dLw_law_937 rfl rfl ?_
  refine ev_iload_n dLw_law_938 rfl rfl ?_
  refine ev_iconst (v := nI 3) dLw_law_939 (by decide) ?_
  refine ev_iadd dLw_law_940 ?_
  refine ev_sld dLw_law_941 (nI_add _ _) (by omega) hN ?_
  refine ev_i2l dLw_law_942 ?_
  refine ev_ldc2 (v := lN 4294967295) dLw_law_943 qLw_13 ?_
  refine ev_land dLw_law_946 ?_
  refine ev_lor dLw_law_947 ?_
  refine ev_aload_n dLw_law_948 rfl rfl ?_
  refine ev_iload_n dLw_law_949 rfl rfl ?_
  refine ev_iconst (v := nI 4) dLw_law_950 (by decide) ?_
  refine ev_iadd dLw_law_951 ?_
  refine ev_sld dLw_law_952 (nI_add _ _) (by omega) hN ?_
  refine cz_Mo_credit dLw_law_953 lLw_104 M1.2.1.1 (Nat.le_of_ble_eq_true rfl) (Mo_credit_ok M1 MG (fun h2 iv2 ia2 la2 M2 G2 r2 => ?_))
  refine ev_icmp_eq (tgt := 1168) dLw_law_956 (by decide) (fun c956 => ?_) (fun c956 => absurd (rfl) c956)
  exact nx (bc + 4) (bs + 171) h2 n ad tg ts ys us _ _ (by omega) (by omega) rfl rfl (St_L hI X N S L1 B o1 M2 MT MY MU G2 r2)
set_option maxRecDepth 20000 in
set_option maxHeartbeats 1000000 in
theorem lw_c19 (hN : xN G < 2 ^ 31) (hi : i + 5 ≤ xN G) (hS : St h n ad tg ts ys us cs as) (nx : ∀ bc' bs' h' n' ad' tg' ts' ys' us' cs' as', bc ≤ bc' → bs ≤ bs' → ad' 0 = ad 0 → ad' 1000 = ad 1000 → St h' n' ad' tg' ts' ys' us' cs' as' → ev_Run G l (d + 7) bc' bs' mLw_law 1168 [some (.ref (xb G)), some (.ref (ad 0)), some (.ref (ad 1000)), some (.int (nI i))] [] h' n' P) : ev_Run G l (d + 7) (bc + 4) (bs + 171) mLw_law 961 [some (.ref (xb G)), some (.ref (ad 0)), some (.ref (ad 1000)), some (.int (nI i))] [] h n P := by
  obtain ⟨hI, ⟨lr, lq, X, N⟩, S, L, ⟨pg, B⟩, iv, ia, la, MH, MT, MY, MU, MG⟩ := id hS
  have h0 := X.2.1
  have M0 : MoK h h ad tg ts.length iv ia la := ⟨X.1, MH, fun _ _ => rfl⟩
  refine ev_aload_n dLw_law_961 rfl rfl ?_
  refine ev_aload_n dLw_law_962 rfl rfl ?_
  refine ev_iload_n dLw_law_963 rfl rfl ?_
  refine ev_iconst (v := nI 1) dLw_law_964 (by decide) ?_
  refine ev_iadd dLw_law_965 ?_
  refine ev_sld dLw_law_966 (nI_add _ _) (by omega) hN ?_
  refine ev_aload_n dLw_law_967 rfl rfl ?_
  refine ev_iload_n dLw_law_968 rfl rfl ?_
  refine ev_iconst (v := nI 2) dLw_law_969 (by decide) ?_
  refine ev_iadd dLw_law_970 ?_
  refine ev_sld dLw_law_971 (nI_add _ _) (by omega) hN ?_
  refine ev_i2l dLw_law_972 ?_
  refine ev_bipush (v := nI 32) dLw_law_973 (by decide) ?_
  refine ev_lshl dLw_law_975 ?_
  refine ev_aload_n dLw_law_976 rfl rfl ?_
  refine ev_iload_n dLw_law_977 rfl rfl ?_
  refine ev_iconst (v := nI 3) dLw_law_978 (by decide) ?_
  refine ev_iadd dLw_law_979 ?_
  refine ev_sld dLw_law_980 (nI_add _ _) (by omega) hN ?_
  refine ev_i2l dLw_law_981 ?_
  refine ev_ldc2 (v := lN 4294967295) dLw_law_982 qLw_13 ?_
  refine ev_land dLw_law_985 ?_
  refine ev_lor dLw_law_986 ?_
  refine ev_aload_n dLw_law_987 rfl rfl ?_
  refine ev_iload_n dLw_law_988 rfl rfl ?_
  refine ev_iconst (v := nI 4) dLw_law_989 (by decide) ?_
  refine ev_iadd dLw_law_990 ?_
  refine ev_sld dLw_law_991 (nI_add _ _) (by omega) hN ?_
  refine cz_BL_claim dLw_law_992 lLw_105 h0 (Nat.le_of_ble_eq_true rfl) (BL_claim_ok X L (fun h1 L1 o1 => ?_))
  have M1 := M_cp X.1 MH (off_cp X.1 o1 [19, 20, 21, 22, 23] rfl (by decide) (Or.inr ⟨by omega, by omega⟩) (by decide))
  refine ev_aload_n dLw_law_995 rfl rfl ?_
  refine ev_aload_n dLw_law_996 rfl rfl ?_
  refine ev_iload_n dLw_law_997 rfl rfl ?_
  refine ev_iconst (v := nI 1) dLw_law_998 (by decide) ?_
  refine ev_iadd dLw_law_999 ?_
  refine ev_sld dLw_law_1000 (nI_add _ _) (by omega) hN ?_
  refine ev_aload_n dLw_law_1001 rfl rfl ?_
  refine ev_iload_n dLw_law_1002 rfl rfl ?_
  refine ev_iconst (v := nI 2) dLw_law_1003 (by decide) ?_
  refine ev_iadd dLw_law_1004 ?_
  refine ev_sld dLw_law_1005 (nI_add _ _) (by omega) hN ?_
  refine ev_i2l dLw_law_1006 ?_
  refine ev_bipush (v := nI 32) dLw_law_1007 (by decide) ?_
  refine ev_lshl dLw_law_1009 ?_
  refine ev_aload_n dLw_law_1010 rfl rfl ?_
  refine ev_iload_n dLw_law_1011 rfl rfl ?_
  refine ev_iconst (v := nI 3) dLw_law_1012 (by decide) ?_
  refine ev_iadd dLw_law_1013 ?_
  refine ev_sld dLw_law_1014 (nI_add _ _) (by omega) hN ?_
  refine ev_i2l dLw_law_1015 ?_
  refine ev_ldc2 (v := lN 4294967295) dLw_law_1016 qLw_13 ?_
  refine ev_land dLw_law_1019 ?_
  refine ev_lor dLw_law_1020 ?_
  refine ev_aload_n dLw_law_1021 rfl rfl ?_
  refine ev_iload_n dLw_law_1022 rfl rfl ?_
  refine ev_iconst (v := nI 4) dLw_law_1023 (by decide) ?_
  refine ev_iadd dLw_law_1024 ?_
  refine ev_sld dLw_law_1025 (nI_add _ _) (by omega) hN ?_
  refine cz_Mo_claim dLw_law_1026 lLw_108 M1.2.1.1 (Nat.le_of_ble_eq_true rfl) (Mo_claim_ok M1 MG (fun h2 iv2 ia2 la2 M2 G2 r2 => ?_))
  refine ev_icmp_eq (tgt := 1168) dLw_law_1029 (by decide) (fun c1029 => ?_) (fun c1029 => absurd (rfl) c1029)
  exact nx (bc + 4) (bs + 171) h2 n ad tg ts ys us _ _ (by omega) (by omega) rfl rfl (St_L hI X N S L1 B o1 M2 MT MY MU G2 r2)
set_option maxRecDepth 20000 in
set_option maxHeartbeats 1000000 in
theorem lw_c20 (hN : xN G < 2 ^ 31) (hi : i + 5 ≤ xN G) (hS : St h n ad tg ts ys us cs as) (nx : ∀ bc' bs' h' n' ad' tg' ts' ys' us' cs' as', bc ≤ bc' → bs ≤ bs' → ad' 0 = ad 0 → ad' 1000 = ad 1000 → St h' n' ad' tg' ts' ys' us' cs' as' → ev_Run G l (d + 7) bc' bs' mLw_law 1168 [some (.ref (xb G)), some (.ref (ad 0)), some (.ref (ad 1000)), some (.int (nI i))] [] h' n' P) : ev_Run G l (d + 7) (bc + 4) (bs + 171) mLw_law 1034 [some (.ref (xb G)), some (.ref (ad 0)), some (.ref (ad 1000)), some (.int (nI i))] [] h n P := by
  obtain ⟨hI, ⟨lr, lq, X, N⟩, S, L, ⟨pg, B⟩, iv, ia, la, MH, MT, MY, MU, MG⟩ := id hS
  have h0 := X.2.1
  have M0 : MoK h h ad tg ts.length iv ia la := ⟨X.1, MH, fun _ _ => rfl⟩
  refine ev_aload_n dLw_law_1034 rfl rfl ?_
  refine ev_aload_n dLw_law_1035 rfl rfl ?_
  refine ev_iload_n dLw_law_1036 rfl rfl ?_
  refine ev_iconst (v := nI 1) dLw_law_1037 (by decide) ?_
  refine ev_iadd dLw_law_1038 ?_
  refine ev_sld dLw_law_1039 (nI_add _ _) (by omega) hN ?_
  refine ev_aload_n dLw_law_1040 rfl rfl ?_
  refine ev_iload_n dLw_law_1041 rfl rfl ?_
  refine ev_iconst (v := nI 2) dLw_law_1042 (by decide) ?_
  refine ev_iadd dLw_law_1043 ?_
  refine ev_sld dLw_law_1044 (nI_add _ _) (by omega) hN ?_
  refine cz_BL_balance dLw_law_1045 lLw_109 h0 (Nat.le_of_ble_eq_true rfl) (BL_balance_ok X L ?_)
  refine ev_aload_n dLw_law_1048 rfl rfl ?_
  refine ev_aload_n dLw_law_1049 rfl rfl ?_
  refine ev_iload_n dLw_law_1050 rfl rfl ?_
  refine ev_iconst (v := nI 1) dLw_law_1051 (by decide) ?_
  refine ev_iadd dLw_law_1052 ?_
  refine ev_sld dLw_law_1053 (nI_add _ _) (by omega) hN ?_
  refine ev_aload_n dLw_law_1054 rfl rfl ?_
  refine ev_iload_n dLw_law_1055 rfl rfl ?_
  refine ev_iconst (v := nI 2) dLw_law_1056 (by decide) ?_
  refine ev_iadd dLw_law_1057 ?_
  refine ev_sld dLw_law_1058 (nI_add _ _) (by omega) hN ?_
  refine cz_Mo_balance dLw_law_1059 lLw_112 M0.2.1.1 (Nat.le_of_ble_eq_true rfl) (Mo_balance_ok M0 MG ?_)
  refine ev_lcmp_eq (tgt := 1168) dLw_law_1062 dLw_law_1063 (by decide) (fun c1062 => ?_) (fun c1062 => absurd (rfl) c1062)
  exact nx (bc + 4) (bs + 171) h n ad tg ts ys us cs as (by omega) (by omega) rfl rfl hS
set_option maxRecDepth 20000 in
set_option maxHeartbeats 1000000 in
theorem lw_c21 (hN : xN G < 2 ^ 31) (hi : i + 5 ≤ xN G) (hS : St h n ad tg ts ys us cs as) (nx : ∀ bc' bs' h' n' ad' tg' ts' ys' us' cs' as', bc ≤ bc' → bs ≤ bs' → ad' 0 = ad 0 → ad' 1000 = ad 1000 → St h' n' ad' tg' ts' ys' us' cs' as' → ev_Run G l (d + 7) bc' bs' mLw_law 1168 [some (.ref (xb G)), some (.ref (ad 0)), some (.ref (ad 1000)), some (.int (nI i))] [] h' n' P) : ev_Run G l (d + 7) (bc + 4) (bs + 171) mLw_law 1068 [some (.ref (xb G)), some (.ref (ad 0)), some (.ref (ad 1000)), some (.int (nI i))] [] h n P := by
  obtain ⟨hI, ⟨lr, lq, X, N⟩, S, L, ⟨pg, B⟩, iv, ia, la, MH, MT, MY, MU, MG⟩ := id hS
  have h0 := X.2.1
  have M0 : MoK h h ad tg ts.length iv ia la := ⟨X.1, MH, fun _ _ => rfl⟩
  refine ev_aload_n dLw_law_1068 rfl rfl ?_
  refine ev_aload_n dLw_law_1069 rfl rfl ?_
  refine ev_iload_n dLw_law_1070 rfl rfl ?_
  refine ev_iconst (v := nI 1) dLw_law_1071 (by decide) ?_
  refine ev_iadd dLw_law_1072 ?_
  refine ev_sld dLw_law_1073 (nI_add _ _) (by omega) hN ?_
  refine ev_aload_n dLw_law_1074 rfl rfl ?_
  refine ev_iload_n dLw_law_1075 rfl rfl ?_
  refine ev_iconst (v := nI 2) dLw_law_1076 (by decide) ?_
  refine ev_iadd dLw_law_1077 ?_
  refine ev_sld dLw_law_1078 (nI_add _ _) (by omega) hN ?_
  refine cz_BL_warm dLw_law_1079 lLw_113 h0 (Nat.le_of_ble_eq_true rfl) (BL_warm_ok X (fun h1 n1 ad1 tg1 X1 F1 le1 => ?_))
  have M1 := M_F X.1 MH F1
  refine ev_aload_n dLw_law_1082 rfl rfl ?_
  refine ev_aload_n dLw_law_1083 rfl rfl ?_
  refine ev_iload_n dLw_law_1084 rfl rfl ?_
  refine ev_iconst (v := nI 1) dLw_law_1085 (by decide) ?_
  refine ev_iadd dLw_law_1086 ?_
  refine ev_sld dLw_law_1087 (nI_add _ _) (by omega) hN ?_
  refine ev_aload_n dLw_law_1088 rfl rfl ?_
  refine ev_iload_n dLw_law_1089 rfl rfl ?_
  refine ev_iconst (v := nI 2) dLw_law_1090 (by decide) ?_
  refine ev_iadd dLw_law_1091 ?_
  refine ev_sld dLw_law_1092 (nI_add _ _) (by omega) hN ?_
  refine cz_Mo_warm dLw_law_1093 lLw_117 M1.2.1.1 (Nat.le_of_ble_eq_true rfl) (Mo_warm_ok M1 MT  (fun h2 iv2 ia2 la2 M2 T2 r2 => ?_))
  refine ev_icmp_eq (tgt := 1168) dLw_law_1096 (by decide) (fun c1096 => ?_) (fun c1096 => absurd (rfl) c1096)
  exact nx (bc + 4) (bs + 171) h2 n1 ad1 tg1 _ ys us cs as (by omega) (by omega) F1.1 (F1.2 1000 (by omega)).1 (St_A (Iv_warm hI (iI_cl (by decide)) iI_nlt) N S L B X1 F1 M2 T2 MY MU MG r2)
set_option maxRecDepth 20000 in
set_option maxHeartbeats 1000000 in
theorem lw_c22 (hN : xN G < 2 ^ 31) (hi : i + 5 ≤ xN G) (hS : St h n ad tg ts ys us cs as) (nx : ∀ bc' bs' h' n' ad' tg' ts' ys' us' cs' as', bc ≤ bc' → bs ≤ bs' → ad' 0 = ad 0 → ad' 1000 = ad 1000 → St h' n' ad' tg' ts' ys' us' cs' as' → ev_Run G l (d + 7) bc' bs' mLw_law 1168 [some (.ref (xb G)), some (.ref (ad 0)), some (.ref (ad 1000)), some (.int (nI i))] [] h' n' P) : ev_Run G l (d + 7) (bc + 4) (bs + 171) mLw_law 1101 [some (.ref (xb G)), some (.ref (ad 0)), some (.ref (ad 1000)), some (.int (nI i))] [] h n P := by
  obtain ⟨hI, ⟨lr, lq, X, N⟩, S, L, ⟨pg, B⟩, iv, ia, la, MH, MT, MY, MU, MG⟩ := id hS
  have h0 := X.2.1
  have M0 : MoK h h ad tg ts.length iv ia la := ⟨X.1, MH, fun _ _ => rfl⟩
  refine ev_aload_n dLw_law_1101 rfl rfl ?_
  refine ev_aload_n dLw_law_1102 rfl rfl ?_
  refine ev_iload_n dLw_law_1103 rfl rfl ?_
  refine ev_iconst (v := nI 1) dLw_law_1104 (by decide) ?_
  refine ev_iadd dLw_law_1105 ?_
  refine ev_sld dLw_law_1106 (nI_add _ _) (by omega) hN ?_
  refine ev_aload_n dLw_law_1107 rfl rfl ?_
  refine ev_iload_n dLw_law_1108 rfl rfl ?_
  refine ev_iconst (v := nI 2) dLw_law_1109 (by decide) ?_
  refine ev_iadd dLw_law_1110 ?_
  refine ev_sld dLw_law_1111 (nI_add _ _) (by omega) hN ?_
  refine ev_aload_n dLw_law_1112 rfl rfl ?_
  refine ev_iload_n dLw_law_1113 rfl rfl ?_
  refine ev_iconst (v := nI 3) dLw_law_1114 (by decide) ?_
  refine ev_iadd dLw_law_1115 ?_
  refine ev_sld dLw_law_1116 (nI_add _ _) (by omega) hN ?_
  refine cz_BL_paper dLw_law_1117 lLw_118 h0 (Nat.le_of_ble_eq_true rfl) (BL_paper_ok X B (fun h1 pg1 B1 o1 => ?_))
  have M1 := M_cp X.1 MH (off_cp X.1 o1 [24, 25] rfl (by decide) (Or.inr ⟨by omega, by omega⟩) (by decide))
  refine ev_aload_n dLw_law_1120 rfl rfl ?_
  refine ev_aload_n dLw_law_1121 rfl rfl ?_
  refine ev_iload_n dLw_law_1122 rfl rfl ?_
  refine ev_iconst (v := nI 1) dLw_law_1123 (by decide) ?_
  refine ev_iadd dLw_law_1124 ?_
  refine ev_sld dLw_law_1125 (nI_add _ _) (by omega) hN ?_
  refine ev_aload_n dLw_law_1126 rfl rfl ?_
  refine ev_iload_n dLw_law_1127 rfl rfl ?_
  refine ev_iconst (v := nI 2) dLw_law_1128 (by decide) ?_
  refine ev_iadd dLw_law_1129 ?_
  refine ev_sld dLw_law_1130 (nI_add _ _) (by omega) hN ?_
  refine ev_aload_n dLw_law_1131 rfl rfl ?_
  refine ev_iload_n dLw_law_1132 rfl rfl ?_
  refine ev_iconst (v := nI 3) dLw_law_1133 (by decide) ?_
  refine ev_iadd dLw_law_1134 ?_
  refine ev_sld dLw_law_1135 (nI_add _ _) (by omega) hN ?_
  refine cz_Mo_paper dLw_law_1136 lLw_122 M1.2.1.1 (Nat.le_of_ble_eq_true rfl) (Mo_paper_ok M1 MT (fun h2 iv2 ia2 M2 r2 => ?_))
  refine ev_icmp_eq (tgt := 1168) dLw_law_1139 (by decide) (fun c1139 => ?_) (fun c1139 => absurd (rfl) c1139)
  exact nx (bc + 4) (bs + 171) h2 n ad tg ts ys us cs as (by omega) (by omega) rfl rfl (St_P hI X N S L B1 o1 M2 MT MY MU MG r2)
set_option maxRecDepth 20000 in
set_option maxHeartbeats 1000000 in
theorem lw_c23 (hN : xN G < 2 ^ 31) (hi : i + 5 ≤ xN G) (hS : St h n ad tg ts ys us cs as) (nx : ∀ bc' bs' h' n' ad' tg' ts' ys' us' cs' as', bc ≤ bc' → bs ≤ bs' → ad' 0 = ad 0 → ad' 1000 = ad 1000 → St h' n' ad' tg' ts' ys' us' cs' as' → ev_Run G l (d + 7) bc' bs' mLw_law 1168 [some (.ref (xb G)), some (.ref (ad 0)), some (.ref (ad 1000)), some (.int (nI i))] [] h' n' P) : ev_Run G l (d + 7) (bc + 4) (bs + 171) mLw_law 1144 [some (.ref (xb G)), some (.ref (ad 0)), some (.ref (ad 1000)), some (.int (nI i))] [] h n P := by
  obtain ⟨hI, ⟨lr, lq, X, N⟩, S, L, ⟨pg, B⟩, iv, ia, la, MH, MT, MY, MU, MG⟩ := id hS
  have h0 := X.2.1
  have M0 : MoK h h ad tg ts.length iv ia la := ⟨X.1, MH, fun _ _ => rfl⟩
  refine ev_aload_n dLw_law_1144 rfl rfl ?_
  refine ev_aload_n dLw_law_1145 rfl rfl ?_
  refine ev_iload_n dLw_law_1146 rfl rfl ?_
  refine ev_iconst (v := nI 1) dLw_law_1147 (by decide) ?_
  refine ev_iadd dLw_law_1148 ?_
  refine ev_sld dLw_law_1149 (nI_add _ _) (by omega) hN ?_
  refine cz_BL_all dLw_law_1150 lLw_123 h0 (Nat.le_of_ble_eq_true rfl) (BL_all_ok X N.2.2.1 L ?_)
  refine ev_aload_n dLw_law_1153 rfl rfl ?_
  refine ev_aload_n dLw_law_1154 rfl rfl ?_
  refine ev_iload_n dLw_law_1155 rfl rfl ?_
  refine ev_iconst (v := nI 1) dLw_law_1156 (by decide) ?_
  refine ev_iadd dLw_law_1157 ?_
  refine ev_sld dLw_law_1158 (nI_add _ _) (by omega) hN ?_
  refine cz_Mo_all dLw_law_1159 lLw_127 M0.2.1.1 (Nat.le_of_ble_eq_true rfl) (Mo_all_ok M0 MT MU MG ?_)
  refine ev_lcmp_eq (tgt := 1168) dLw_law_1162 dLw_law_1163 (by decide) (fun c1162 => ?_) (fun c1162 => absurd (rfl) c1162)
  exact nx (bc + 4) (bs + 171) h n ad tg ts ys us cs as (by omega) (by omega) rfl rfl hS
end LW72
