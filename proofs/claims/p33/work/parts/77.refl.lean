set_option maxRecDepth 100000 in
set_option maxHeartbeats 400000 in
theorem l_ref1l {D : DT} {K : KT} {X : XT} {s : SG} {M : MT} {q xx : Nat} {lotv panv canv bigv hunv knv : Int32} {was : Int64} {u0 : Nat} (hI : INV X s q) (hq : q < 512) (hM : MV s M) (hxx : xx < 2147483648) (hF : RF9 s lotv panv canv bigv hunv knv) (hNC : NC3 K.2.2.2.1) (hU : u0 + 8 * nA s ≤ 1200) (kk : ∀ (G : GT), WD X s M G → V cL_isRefused yL_isRefused.cls 15 rm_isRefused D K 1054 [some (.ref (X.1 0 0)), some (.ref M.1.1), some (.int (nI xx)), some (.int 1), some (.int lotv), some (.int panv), some (.int canv), some (.int bigv), some (.int hunv), some (.int knv), some (.long was), none, some (.int 1), some (.int (nI (nA s))), none] [] G (nu (u0 + 8 * nA s))) : ∀ (d i : Nat) (G : GT), i + d = nA s → WD X s M G → V cL_isRefused yL_isRefused.cls 15 rm_isRefused D K 847 [some (.ref (X.1 0 0)), some (.ref M.1.1), some (.int (nI xx)), some (.int 1), some (.int lotv), some (.int panv), some (.int canv), some (.int bigv), some (.int hunv), some (.int knv), some (.long was), none, some (.int 1), some (.int (nI i)), none] [] G (nu (u0 + 8 * i)) := by
  obtain ⟨b1, b2, b3, b4, b5, n1, n2, n3, n4, n5⟩ := hI.six hq
  obtain ⟨hlot, hpan, hcan, hbig, hhun, hkn⟩ := hF
  intro d
  induction d with
  | zero =>
    intro i G he hW
    obtain rfl : i = nA s := by omega
    refine v_iload (pc := 847) dL_isRefused_847 rfl ?_
    refine v_aload_n (pc := 849) dL_isRefused_849 rfl rfl ?_
    refine v_iconst (pc := 850) (v := 0) dL_isRefused_850 (by decide) ?_
    refine vw_m (pc := 851) (j := 0) hW dL_isRefused_851 rfl (by decide) (x := nI (nA s)) (hM.1.trans n1) ?_
    refine v_icmp_ge (pc := 852) (tgt := 1054) dL_isRefused_852 (by decide) (fun c852 => ?_) (fun c852 => absurd c852 (fun z => z (Int32.le_refl _)))
    exact kk G hW
  | succ d ih =>
    intro i G he hW
    have hi : i < nA s := by omega
    have hik : btw (nI i) 0 (nI (nA s) - 1) := btw_n (by omega) (by omega)
    have t41 : ∀ G : GT, WD X s M G → V cL_isRefused yL_isRefused.cls 15 rm_isRefused D K 1041 [some (.ref (X.1 0 0)), some (.ref M.1.1), some (.int (nI xx)), some (.int 1), some (.int lotv), some (.int panv), some (.int canv), some (.int bigv), some (.int hunv), some (.int knv), some (.long was), none, some (.int 1), some (.int (nI i)), none] [] G (nu (u0 + 8 * i + 7)) := by
      intro G hW
      refine v_iconst (pc := 1041) (v := 1) dL_isRefused_1041 (by decide) ?_
      refine v_goto (pc := 1042) (tgt := 1046) dL_isRefused_1042 (by decide) ?_
      refine v_istore (pc := 1046) dL_isRefused_1046 rfl (by decide) ?_
      refine v_iinc (pc := 1048) dL_isRefused_1048 rfl (nI_1 _) rfl (by decide) ?_
      refine v_goto (pc := 1051) (tgt := 847) dL_isRefused_1051 (by decide) ?_
      refine vq_u (u' := u0 + 8 * (i + 1)) (by omega) ?_
      exact ih (i + 1) G (by omega) hW
    have t15 : ∀ G : GT, WD X s M G → V cL_isRefused yL_isRefused.cls 15 rm_isRefused D K 1015 [some (.ref (X.1 0 0)), some (.ref M.1.1), some (.int (nI xx)), some (.int 1), some (.int lotv), some (.int panv), some (.int canv), some (.int bigv), some (.int hunv), some (.int knv), some (.long was), none, some (.int 1), some (.int (nI i)), none] [] G (nu (u0 + 8 * i + 6)) := by
      intro G hW
      refine v_aload_n (pc := 1015) dL_isRefused_1015 rfl rfl ?_
      refine v_iconst (pc := 1016) (v := 4) dL_isRefused_1016 (by decide) ?_
      refine vw_m (pc := 1017) (j := 4) hW dL_isRefused_1017 rfl (by decide) (x := nI (nC s)) (hM.2.2.2.2.1.trans n3) ?_
      refine v_bipush (pc := 1018) (v := 6) dL_isRefused_1018 (by decide) ?_
      refine v_icmp_lt (pc := 1020) (tgt := 1041) dL_isRefused_1020 (by decide) (fun c1020 => ?_) (fun c1020 => ?_)
      · refine vq_u (u' := u0 + 8 * i + 7) (by omega) ?_
        exact t41 G hW
      · have h6 : nC s = 6 := by
          have : (6 : Int32) ≤ nI (nC s) := n_nlt.mp c1020
          have := (nI_leI (a := 6) (by decide) (by omega)).mp this
          omega
        refine v_aload_n (pc := 1023) dL_isRefused_1023 rfl rfl ?_
        refine v_bipush (pc := 1024) (v := 18) dL_isRefused_1024 (by decide) ?_
        refine v_iload (pc := 1026) dL_isRefused_1026 rfl ?_
        refine v_iconst (pc := 1028) (v := 0) dL_isRefused_1028 (by decide) ?_
        refine v_iconst (pc := 1029) (v := 0) dL_isRefused_1029 (by decide) ?_
        refine v_iconst (pc := 1030) (v := 0) dL_isRefused_1030 (by decide) ?_
        refine vqL (pc := 1031) (u := u0 + 8 * i + 6) (j := 1) (U := 1200) (As := [.ref (X.1 0 0), .int _, .int _, .int _, .int _, .int _]) hNC dL_isRefused_1031 ll_act.1 ll_act.2.1 wl_act ll_act.2.2.2 ll_act.2.2.1 (xIS_canopy _ 0 0 0 hW hI hq (by unfold kCan; rw [if_pos hik, if_pos h6])) rfl rfl (Nat.le_of_ble_eq_true rfl) ⟨Nat.le_of_ble_eq_true rfl, Nat.le_of_ble_eq_true rfl⟩ ⟨by decide, by decide⟩ ⟨rfl, rfl⟩ (by omega) (fun v G hp => ?_)
        obtain ⟨rfl, hW⟩ := hp
        refine v_ldcL (pc := 1034) dL_isRefused_1034 k_L_113 ?_
        refine v_lcmp (pc := 1037) dL_isRefused_1037 ?_
        refine v_if_ne (pc := 1038) (tgt := 1045) dL_isRefused_1038 (by decide) (fun c1038 => absurd c1038 (d_ne rfl)) (fun c1038 => ?_)
        refine vq_u (u' := u0 + 8 * i + 7) (by omega) ?_
        exact t41 G hW
    refine v_iload (pc := 847) dL_isRefused_847 rfl ?_
    refine v_aload_n (pc := 849) dL_isRefused_849 rfl rfl ?_
    refine v_iconst (pc := 850) (v := 0) dL_isRefused_850 (by decide) ?_
    refine vw_m (pc := 851) (j := 0) hW dL_isRefused_851 rfl (by decide) (x := nI (nA s)) (hM.1.trans n1) ?_
    refine v_icmp_ge (pc := 852) (tgt := 1054) dL_isRefused_852 (by decide) (fun c852 => absurd c852 (nI_ge (by omega) (by omega))) (fun c852 => ?_)
    refine v_iload (pc := 855) dL_isRefused_855 rfl ?_
    refine v_if_eq (pc := 857) (tgt := 1054) dL_isRefused_857 (by decide) (fun c857 => absurd c857 (by decide)) (fun c857 => ?_)
    refine v_aload_n (pc := 860) dL_isRefused_860 rfl rfl ?_
    refine v_iconst (pc := 861) (v := 1) dL_isRefused_861 (by decide) ?_
    refine v_iload (pc := 862) dL_isRefused_862 rfl ?_
    refine v_iload_n (pc := 864) dL_isRefused_864 rfl rfl ?_
    refine v_if_eq (pc := 865) (tgt := 877) dL_isRefused_865 (by decide) (fun c865 => absurd c865 (by decide)) (fun c865 => ?_)
    refine v_iconst (pc := 868) (v := 0) dL_isRefused_868 (by decide) ?_
    refine v_iload_n (pc := 869) dL_isRefused_869 rfl rfl ?_
    refine v_bipush (pc := 870) (v := 30) dL_isRefused_870 (by decide) ?_
    refine v_nrem (pc := 872) xx 30 dL_isRefused_872 (by omega) (by decide) rfl rfl ?_
    refine v_isub (pc := 873) dL_isRefused_873 ?_
    refine v_goto (pc := 874) (tgt := 880) dL_isRefused_874 (by decide) ?_
    refine v_iconst (pc := 880) (v := 0) dL_isRefused_880 (by decide) ?_
    refine v_iconst (pc := 881) (v := 0) dL_isRefused_881 (by decide) ?_
    refine vqN (pc := 882) (u := u0 + 8 * i) (j := 1) (U := 1200) (As := [.ref (X.1 0 0), .int _, .int _, .int _, .int _, .int _]) hNC dL_isRefused_882 cw_L_142 sm_yL_off (ow_sun _ _ 0 0 hW hI hq (by unfold kSun; rw [if_pos hik, if_neg (nb_lo (k := 0 - ((xx % 30 : Nat) : Int)) (sub_ti (k := 0) rfl (by omega) (by decide)) (l := 1) rfl (by omega))])) rfl rfl (Nat.le_of_ble_eq_true rfl) ⟨Nat.le_of_ble_eq_true rfl, Nat.le_of_ble_eq_true rfl⟩ ⟨by decide, by decide⟩ ⟨rfl, rfl⟩ (by omega) (fun v G hp => ?_)
    obtain ⟨rfl, hW⟩ := hp
    refine v_if_eq (pc := 885) (tgt := 1045) dL_isRefused_885 (by decide) (fun c885 => absurd c885 (by decide)) (fun c885 => ?_)
    refine v_aload_n (pc := 888) dL_isRefused_888 rfl rfl ?_
    refine v_iconst (pc := 889) (v := 2) dL_isRefused_889 (by decide) ?_
    refine v_iload (pc := 890) dL_isRefused_890 rfl ?_
    refine v_iload_n (pc := 892) dL_isRefused_892 rfl rfl ?_
    refine v_if_eq (pc := 893) (tgt := 900) dL_isRefused_893 (by decide) (fun c893 => absurd c893 (by decide)) (fun c893 => ?_)
    refine v_iconst (pc := 896) (v := 0) dL_isRefused_896 (by decide) ?_
    refine v_goto (pc := 897) (tgt := 908) dL_isRefused_897 (by decide) ?_
    refine v_iconst (pc := 908) (v := 5) dL_isRefused_908 (by decide) ?_
    refine v_iconst (pc := 909) (v := 0) dL_isRefused_909 (by decide) ?_
    refine vqN (pc := 910) (u := u0 + 8 * i + 1) (j := 1) (U := 1200) (As := [.ref (X.1 0 0), .int _, .int _, .int _, .int _, .int _]) hNC dL_isRefused_910 cw_L_142 sm_yL_off (ow_panel _ _ 5 0 hW hI hq (by unfold kPan; rw [if_pos hik, if_neg (fun h => absurd h.1.1 (by decide))])) rfl rfl (Nat.le_of_ble_eq_true rfl) ⟨Nat.le_of_ble_eq_true rfl, Nat.le_of_ble_eq_true rfl⟩ ⟨by decide, by decide⟩ ⟨rfl, rfl⟩ (by omega) (fun v G hp => ?_)
    obtain ⟨rfl, hW⟩ := hp
    refine v_if_eq (pc := 913) (tgt := 1045) dL_isRefused_913 (by decide) (fun c913 => absurd c913 (by decide)) (fun c913 => ?_)
    refine v_aload_n (pc := 916) dL_isRefused_916 rfl rfl ?_
    refine v_iconst (pc := 917) (v := 2) dL_isRefused_917 (by decide) ?_
    refine v_iload (pc := 918) dL_isRefused_918 rfl ?_
    refine v_iconst (pc := 920) (v := 5) dL_isRefused_920 (by decide) ?_
    refine v_iload_n (pc := 921) dL_isRefused_921 rfl rfl ?_
    refine v_if_eq (pc := 922) (tgt := 934) dL_isRefused_922 (by decide) (fun c922 => absurd c922 (by decide)) (fun c922 => ?_)
    refine v_iconst (pc := 925) (v := 0) dL_isRefused_925 (by decide) ?_
    refine v_iload_n (pc := 926) dL_isRefused_926 rfl rfl ?_
    refine v_bipush (pc := 927) (v := 30) dL_isRefused_927 (by decide) ?_
    refine v_nrem (pc := 929) xx 30 dL_isRefused_929 (by omega) (by decide) rfl rfl ?_
    refine v_isub (pc := 930) dL_isRefused_930 ?_
    refine v_goto (pc := 931) (tgt := 937) dL_isRefused_931 (by decide) ?_
    refine v_iconst (pc := 937) (v := 0) dL_isRefused_937 (by decide) ?_
    refine vqN (pc := 938) (u := u0 + 8 * i + 1 + 1) (j := 1) (U := 1200) (As := [.ref (X.1 0 0), .int _, .int _, .int _, .int _, .int _]) hNC dL_isRefused_938 cw_L_142 sm_yL_off (ow_panel _ 5 _ 0 hW hI hq (by unfold kPan; rw [if_pos hik, if_neg (fun h => (nb_lo (k := 0 - ((xx % 30 : Nat) : Int)) (sub_ti (k := 0) rfl (by omega) (by decide)) (l := 1) rfl (by omega)) h.1.2.1)])) rfl rfl (Nat.le_of_ble_eq_true rfl) ⟨Nat.le_of_ble_eq_true rfl, Nat.le_of_ble_eq_true rfl⟩ ⟨by decide, by decide⟩ ⟨rfl, rfl⟩ (by omega) (fun v G hp => ?_)
    obtain ⟨rfl, hW⟩ := hp
    refine v_if_eq (pc := 941) (tgt := 1045) dL_isRefused_941 (by decide) (fun c941 => absurd c941 (by decide)) (fun c941 => ?_)
    refine v_aload_n (pc := 944) dL_isRefused_944 rfl rfl ?_
    refine v_iconst (pc := 945) (v := 2) dL_isRefused_945 (by decide) ?_
    refine v_iload (pc := 946) dL_isRefused_946 rfl ?_
    refine v_iconst (pc := 948) (v := 5) dL_isRefused_948 (by decide) ?_
    refine v_iconst (pc := 949) (v := 5) dL_isRefused_949 (by decide) ?_
    refine v_iload_n (pc := 950) dL_isRefused_950 rfl rfl ?_
    refine v_if_eq (pc := 951) (tgt := 958) dL_isRefused_951 (by decide) (fun c951 => absurd c951 (by decide)) (fun c951 => ?_)
    refine v_iconst (pc := 954) (v := (-1)) dL_isRefused_954 (by decide) ?_
    refine v_goto (pc := 955) (tgt := 964) dL_isRefused_955 (by decide) ?_
    refine vqN (pc := 964) (u := u0 + 8 * i + 1 + 1 + 1) (j := 1) (U := 1200) (As := [.ref (X.1 0 0), .int _, .int _, .int _, .int _, .int _]) hNC dL_isRefused_964 cw_L_142 sm_yL_off (ow_panel _ 5 5 _ hW hI hq (by unfold kPan; rw [if_pos hik, if_neg (fun h => absurd h.1.2.2 (by decide))])) rfl rfl (Nat.le_of_ble_eq_true rfl) ⟨Nat.le_of_ble_eq_true rfl, Nat.le_of_ble_eq_true rfl⟩ ⟨by decide, by decide⟩ ⟨rfl, rfl⟩ (by omega) (fun v G hp => ?_)
    obtain ⟨rfl, hW⟩ := hp
    refine v_if_eq (pc := 967) (tgt := 1045) dL_isRefused_967 (by decide) (fun c967 => absurd c967 (by decide)) (fun c967 => ?_)
    refine v_aload_n (pc := 970) dL_isRefused_970 rfl rfl ?_
    refine v_iconst (pc := 971) (v := 2) dL_isRefused_971 (by decide) ?_
    refine v_iload (pc := 972) dL_isRefused_972 rfl ?_
    refine v_bipush (pc := 974) (v := 76) dL_isRefused_974 (by decide) ?_
    refine v_iload_n (pc := 976) dL_isRefused_976 rfl rfl ?_
    refine v_bipush (pc := 977) (v := 70) dL_isRefused_977 (by decide) ?_
    refine v_nrem (pc := 979) xx 70 dL_isRefused_979 (by omega) (by decide) rfl rfl ?_
    refine v_iadd (pc := 980) dL_isRefused_980 ?_
    refine v_bipush (pc := 981) (v := 75) dL_isRefused_981 (by decide) ?_
    refine v_iconst (pc := 983) (v := 2) dL_isRefused_983 (by decide) ?_
    refine vqN (pc := 984) (u := u0 + 8 * i + 1 + 1 + 1 + 1) (j := 1) (U := 1200) (As := [.ref (X.1 0 0), .int _, .int _, .int _, .int _, .int _]) hNC dL_isRefused_984 cw_L_142 sm_yL_off (ow_panel _ _ 75 2 hW hI hq (by unfold kPan; rw [if_pos hik, if_neg (fun h => h.2 ⟨rfl, p_wide (xx % 70) (by omega)⟩)])) rfl rfl (Nat.le_of_ble_eq_true rfl) ⟨Nat.le_of_ble_eq_true rfl, Nat.le_of_ble_eq_true rfl⟩ ⟨by decide, by decide⟩ ⟨rfl, rfl⟩ (by omega) (fun v G hp => ?_)
    obtain ⟨rfl, hW⟩ := hp
    refine v_if_eq (pc := 987) (tgt := 1045) dL_isRefused_987 (by decide) (fun c987 => absurd c987 (by decide)) (fun c987 => ?_)
    refine v_aload_n (pc := 990) dL_isRefused_990 rfl rfl ?_
    refine v_iconst (pc := 991) (v := 1) dL_isRefused_991 (by decide) ?_
    refine vw_m (pc := 992) (j := 1) hW dL_isRefused_992 rfl (by decide) (x := nI (nB s)) (hM.2.1.trans n2) ?_
    refine v_bipush (pc := 993) (v := 12) dL_isRefused_993 (by decide) ?_
    refine v_icmp_lt (pc := 995) (tgt := 1015) dL_isRefused_995 (by decide) (fun c995 => ?_) (fun c995 => ?_)
    · refine vq_u (u' := u0 + 8 * i + 6) (by omega) ?_
      exact t15 G hW
    · have h12 : nB s = 12 := by
        have : (12 : Int32) ≤ nI (nB s) := n_nlt.mp c995
        have := (nI_leI (a := 12) (by decide) (by omega)).mp this
        omega
      refine v_aload_n (pc := 998) dL_isRefused_998 rfl rfl ?_
      refine v_iconst (pc := 999) (v := 2) dL_isRefused_999 (by decide) ?_
      refine v_iload (pc := 1000) dL_isRefused_1000 rfl ?_
      refine v_iconst (pc := 1002) (v := 5) dL_isRefused_1002 (by decide) ?_
      refine v_iconst (pc := 1003) (v := 5) dL_isRefused_1003 (by decide) ?_
      refine v_iconst (pc := 1004) (v := 0) dL_isRefused_1004 (by decide) ?_
      refine vqL (pc := 1005) (u := u0 + 8 * i + 1 + 1 + 1 + 1 + 1) (j := 1) (U := 1200) (As := [.ref (X.1 0 0), .int _, .int _, .int _, .int _, .int _]) hNC dL_isRefused_1005 ll_act.1 ll_act.2.1 wl_act ll_act.2.2.2 ll_act.2.2.1 (xIS_panel _ 5 5 0 hW hI hq (by unfold kPan; rw [if_pos hik, if_pos (by decide), if_pos h12])) rfl rfl (Nat.le_of_ble_eq_true rfl) ⟨Nat.le_of_ble_eq_true rfl, Nat.le_of_ble_eq_true rfl⟩ ⟨by decide, by decide⟩ ⟨rfl, rfl⟩ (by omega) (fun v G hp => ?_)
      obtain ⟨rfl, hW⟩ := hp
      refine v_ldcL (pc := 1008) dL_isRefused_1008 k_L_113 ?_
      refine v_lcmp (pc := 1011) dL_isRefused_1011 ?_
      refine v_if_ne (pc := 1012) (tgt := 1045) dL_isRefused_1012 (by decide) (fun c1012 => absurd c1012 (d_ne rfl)) (fun c1012 => ?_)
      refine vq_u (u' := u0 + 8 * i + 6) (by omega) ?_
      exact t15 G hW
set_option maxRecDepth 100000 in
set_option maxHeartbeats 400000 in
theorem l_ref2l {D : DT} {K : KT} {X : XT} {s : SG} {M : MT} {q xx : Nat} {lotv panv canv bigv hunv knv : Int32} {was : Int64} {u0 : Nat} (hI : INV X s q) (hq : q < 512) (hM : MV s M) (hxx : xx < 2147483648) (hF : RF9 s lotv panv canv bigv hunv knv) (hNC : NC3 K.2.2.2.1) (hU : u0 + 6 * nB s ≤ 1200) (kk : ∀ (G : GT), WD X s M G → V cL_isRefused yL_isRefused.cls 15 rm_isRefused D K 1181 [some (.ref (X.1 0 0)), some (.ref M.1.1), some (.int (nI xx)), some (.int 1), some (.int lotv), some (.int panv), some (.int canv), some (.int bigv), some (.int hunv), some (.int knv), some (.long was), none, some (.int 1), some (.int (nI (nB s))), none] [] G (nu (u0 + 6 * nB s))) : ∀ (d i : Nat) (G : GT), i + d = nB s → WD X s M G → V cL_isRefused yL_isRefused.cls 15 rm_isRefused D K 1057 [some (.ref (X.1 0 0)), some (.ref M.1.1), some (.int (nI xx)), some (.int 1), some (.int lotv), some (.int panv), some (.int canv), some (.int bigv), some (.int hunv), some (.int knv), some (.long was), none, some (.int 1), some (.int (nI i)), none] [] G (nu (u0 + 6 * i)) := by
  obtain ⟨b1, b2, b3, b4, b5, n1, n2, n3, n4, n5⟩ := hI.six hq
  obtain ⟨hlot, hpan, hcan, hbig, hhun, hkn⟩ := hF
  intro d
  induction d with
  | zero =>
    intro i G he hW
    obtain rfl : i = nB s := by omega
    refine v_iload (pc := 1057) dL_isRefused_1057 rfl ?_
    refine v_aload_n (pc := 1059) dL_isRefused_1059 rfl rfl ?_
    refine v_iconst (pc := 1060) (v := 1) dL_isRefused_1060 (by decide) ?_
    refine vw_m (pc := 1061) (j := 1) hW dL_isRefused_1061 rfl (by decide) (x := nI (nB s)) (hM.2.1.trans n2) ?_
    refine v_icmp_ge (pc := 1062) (tgt := 1181) dL_isRefused_1062 (by decide) (fun c1062 => ?_) (fun c1062 => absurd c1062 (fun z => z (Int32.le_refl _)))
    exact kk G hW
  | succ d ih =>
    intro i G he hW
    have hi : i < nB s := by omega
    have hik : btw (nI i) 0 (nI (nB s) - 1) := btw_n (by omega) (by omega)
    have t68 : ∀ G : GT, WD X s M G → V cL_isRefused yL_isRefused.cls 15 rm_isRefused D K 1168 [some (.ref (X.1 0 0)), some (.ref M.1.1), some (.int (nI xx)), some (.int 1), some (.int lotv), some (.int panv), some (.int canv), some (.int bigv), some (.int hunv), some (.int knv), some (.long was), none, some (.int 1), some (.int (nI i)), none] [] G (nu (u0 + 6 * i + 5)) := by
      intro G hW
      refine v_iconst (pc := 1168) (v := 1) dL_isRefused_1168 (by decide) ?_
      refine v_goto (pc := 1169) (tgt := 1173) dL_isRefused_1169 (by decide) ?_
      refine v_istore (pc := 1173) dL_isRefused_1173 rfl (by decide) ?_
      refine v_iinc (pc := 1175) dL_isRefused_1175 rfl (nI_1 _) rfl (by decide) ?_
      refine v_goto (pc := 1178) (tgt := 1057) dL_isRefused_1178 (by decide) ?_
      refine vq_u (u' := u0 + 6 * (i + 1)) (by omega) ?_
      exact ih (i + 1) G (by omega) hW
    refine v_iload (pc := 1057) dL_isRefused_1057 rfl ?_
    refine v_aload_n (pc := 1059) dL_isRefused_1059 rfl rfl ?_
    refine v_iconst (pc := 1060) (v := 1) dL_isRefused_1060 (by decide) ?_
    refine vw_m (pc := 1061) (j := 1) hW dL_isRefused_1061 rfl (by decide) (x := nI (nB s)) (hM.2.1.trans n2) ?_
    refine v_icmp_ge (pc := 1062) (tgt := 1181) dL_isRefused_1062 (by decide) (fun c1062 => absurd c1062 (nI_ge (by omega) (by omega))) (fun c1062 => ?_)
    refine v_iload (pc := 1065) dL_isRefused_1065 rfl ?_
    refine v_if_eq (pc := 1067) (tgt := 1181) dL_isRefused_1067 (by decide) (fun c1067 => absurd c1067 (by decide)) (fun c1067 => ?_)
    refine v_aload_n (pc := 1070) dL_isRefused_1070 rfl rfl ?_
    refine v_iconst (pc := 1071) (v := 5) dL_isRefused_1071 (by decide) ?_
    refine v_iload (pc := 1072) dL_isRefused_1072 rfl ?_
    refine v_iload (pc := 1074) dL_isRefused_1074 rfl ?_
    refine v_iconst (pc := 1076) (v := 0) dL_isRefused_1076 (by decide) ?_
    refine v_iconst (pc := 1077) (v := 0) dL_isRefused_1077 (by decide) ?_
    refine vqN (pc := 1078) (u := u0 + 6 * i) (j := 1) (U := 1200) (As := [.ref (X.1 0 0), .int _, .int _, .int _, .int _, .int _]) hNC dL_isRefused_1078 cw_L_146 sm_yL_no (nw_seam _ _ 0 0 hW hI hq (by unfold kSeam; exact if_neg (fun h => hpan h.2))) rfl rfl (Nat.le_of_ble_eq_true rfl) ⟨Nat.le_of_ble_eq_true rfl, Nat.le_of_ble_eq_true rfl⟩ ⟨by decide, by decide⟩ ⟨rfl, rfl⟩ (by omega) (fun v G hp => ?_)
    obtain ⟨rfl, hW⟩ := hp
    refine v_if_eq (pc := 1081) (tgt := 1172) dL_isRefused_1081 (by decide) (fun c1081 => absurd c1081 (by decide)) (fun c1081 => ?_)
    refine v_aload_n (pc := 1084) dL_isRefused_1084 rfl rfl ?_
    refine v_iconst (pc := 1085) (v := 5) dL_isRefused_1085 (by decide) ?_
    refine v_iload (pc := 1086) dL_isRefused_1086 rfl ?_
    refine v_iload (pc := 1088) dL_isRefused_1088 rfl ?_
    refine v_iconst (pc := 1090) (v := 0) dL_isRefused_1090 (by decide) ?_
    refine v_iconst (pc := 1091) (v := 0) dL_isRefused_1091 (by decide) ?_
    refine vqN (pc := 1092) (u := u0 + 6 * i + 1) (j := 1) (U := 1200) (As := [.ref (X.1 0 0), .int _, .int _, .int _, .int _, .int _]) hNC dL_isRefused_1092 cw_L_142 sm_yL_off (ow_seam _ _ 0 0 hW hI hq (by unfold kSeam; rw [if_pos ⟨hik, hik⟩, if_neg (fun h => h.1 rfl)])) rfl rfl (Nat.le_of_ble_eq_true rfl) ⟨Nat.le_of_ble_eq_true rfl, Nat.le_of_ble_eq_true rfl⟩ ⟨by decide, by decide⟩ ⟨rfl, rfl⟩ (by omega) (fun v G hp => ?_)
    obtain ⟨rfl, hW⟩ := hp
    refine v_if_eq (pc := 1095) (tgt := 1172) dL_isRefused_1095 (by decide) (fun c1095 => absurd c1095 (by decide)) (fun c1095 => ?_)
    refine v_aload_n (pc := 1098) dL_isRefused_1098 rfl rfl ?_
    refine v_bipush (pc := 1099) (v := 7) dL_isRefused_1099 (by decide) ?_
    refine v_iload (pc := 1101) dL_isRefused_1101 rfl ?_
    refine v_iload (pc := 1103) dL_isRefused_1103 rfl ?_
    refine v_iconst (pc := 1105) (v := 0) dL_isRefused_1105 (by decide) ?_
    refine v_iconst (pc := 1106) (v := 0) dL_isRefused_1106 (by decide) ?_
    refine vqN (pc := 1107) (u := u0 + 6 * i + 1 + 1) (j := 1) (U := 1200) (As := [.ref (X.1 0 0), .int _, .int _, .int _, .int _, .int _]) hNC dL_isRefused_1107 cw_L_146 sm_yL_no (nw_bears _ _ 0 0 hW hI hq (by unfold kBe; exact if_neg (fun h => hpan h.2))) rfl rfl (Nat.le_of_ble_eq_true rfl) ⟨Nat.le_of_ble_eq_true rfl, Nat.le_of_ble_eq_true rfl⟩ ⟨by decide, by decide⟩ ⟨rfl, rfl⟩ (by omega) (fun v G hp => ?_)
    obtain ⟨rfl, hW⟩ := hp
    refine v_if_eq (pc := 1110) (tgt := 1172) dL_isRefused_1110 (by decide) (fun c1110 => absurd c1110 (by decide)) (fun c1110 => ?_)
    refine v_aload_n (pc := 1113) dL_isRefused_1113 rfl rfl ?_
    refine v_bipush (pc := 1114) (v := 8) dL_isRefused_1114 (by decide) ?_
    refine v_iload (pc := 1116) dL_isRefused_1116 rfl ?_
    refine v_iload (pc := 1118) dL_isRefused_1118 rfl ?_
    refine v_iconst (pc := 1120) (v := 0) dL_isRefused_1120 (by decide) ?_
    refine v_iconst (pc := 1121) (v := 0) dL_isRefused_1121 (by decide) ?_
    refine vqN (pc := 1122) (u := u0 + 6 * i + 1 + 1 + 1) (j := 1) (U := 1200) (As := [.ref (X.1 0 0), .int _, .int _, .int _, .int _, .int _]) hNC dL_isRefused_1122 cw_L_146 sm_yL_no (nw_bearsAnew _ _ 0 0 hW hI hq (by unfold kBe; exact if_neg (fun h => hpan h.1))) rfl rfl (Nat.le_of_ble_eq_true rfl) ⟨Nat.le_of_ble_eq_true rfl, Nat.le_of_ble_eq_true rfl⟩ ⟨by decide, by decide⟩ ⟨rfl, rfl⟩ (by omega) (fun v G hp => ?_)
    obtain ⟨rfl, hW⟩ := hp
    refine v_if_eq (pc := 1125) (tgt := 1172) dL_isRefused_1125 (by decide) (fun c1125 => absurd c1125 (by decide)) (fun c1125 => ?_)
    refine v_aload_n (pc := 1128) dL_isRefused_1128 rfl rfl ?_
    refine v_iconst (pc := 1129) (v := 1) dL_isRefused_1129 (by decide) ?_
    refine vw_m (pc := 1130) (j := 1) hW dL_isRefused_1130 rfl (by decide) (x := nI (nB s)) (hM.2.1.trans n2) ?_
    refine v_iconst (pc := 1131) (v := 2) dL_isRefused_1131 (by decide) ?_
    refine v_icmp_lt (pc := 1132) (tgt := 1168) dL_isRefused_1132 (by decide) (fun c1132 => ?_) (fun c1132 => ?_)
    · refine vq_u (u' := u0 + 6 * i + 5) (by omega) ?_
      exact t68 G hW
    · refine v_aload_n (pc := 1135) dL_isRefused_1135 rfl rfl ?_
      refine v_iconst (pc := 1136) (v := 5) dL_isRefused_1136 (by decide) ?_
      refine v_iload (pc := 1137) dL_isRefused_1137 rfl ?_
      refine v_iload (pc := 1139) dL_isRefused_1139 rfl ?_
      refine v_iconst (pc := 1141) (v := 1) dL_isRefused_1141 (by decide) ?_
      refine v_iadd (pc := 1142) dL_isRefused_1142 ?_
      refine v_aload_n (pc := 1143) dL_isRefused_1143 rfl rfl ?_
      refine v_iconst (pc := 1144) (v := 1) dL_isRefused_1144 (by decide) ?_
      refine vw_m (pc := 1145) (j := 1) hW dL_isRefused_1145 rfl (by decide) (x := nI (nB s)) (hM.2.1.trans n2) ?_
      refine v_nrem (pc := 1146) (i + 1) (nB s) dL_isRefused_1146 (by omega) (by omega) (nI_1 _) rfl ?_
      refine v_iload_n (pc := 1147) dL_isRefused_1147 rfl rfl ?_
      refine v_if_eq (pc := 1148) (tgt := 1160) dL_isRefused_1148 (by decide) (fun c1148 => absurd c1148 (by decide)) (fun c1148 => ?_)
      refine v_iconst (pc := 1151) (v := (-1)) dL_isRefused_1151 (by decide) ?_
      refine v_iload_n (pc := 1152) dL_isRefused_1152 rfl rfl ?_
      refine v_bipush (pc := 1153) (v := 30) dL_isRefused_1153 (by decide) ?_
      refine v_nrem (pc := 1155) xx 30 dL_isRefused_1155 (by omega) (by decide) rfl rfl ?_
      refine v_isub (pc := 1156) dL_isRefused_1156 ?_
      refine v_goto (pc := 1157) (tgt := 1161) dL_isRefused_1157 (by decide) ?_
      refine v_iconst (pc := 1161) (v := 0) dL_isRefused_1161 (by decide) ?_
      refine vqN (pc := 1162) (u := u0 + 6 * i + 1 + 1 + 1 + 1) (j := 1) (U := 1200) (As := [.ref (X.1 0 0), .int _, .int _, .int _, .int _, .int _]) hNC dL_isRefused_1162 cw_L_142 sm_yL_off (ow_seam _ _ _ 0 hW hI hq (by unfold kSeam; rw [if_pos ⟨hik, btw_n (Nat.mod_lt _ (by omega)) (by omega)⟩, if_neg (fun h => (nb_lo (k := -1 - ((xx % 30 : Nat) : Int)) (sub_ti (k := -1) rfl (by omega) (by decide)) (l := 0) rfl (by omega)) h.2)])) rfl rfl (Nat.le_of_ble_eq_true rfl) ⟨Nat.le_of_ble_eq_true rfl, Nat.le_of_ble_eq_true rfl⟩ ⟨by decide, by decide⟩ ⟨rfl, rfl⟩ (by omega) (fun v G hp => ?_)
      obtain ⟨rfl, hW⟩ := hp
      refine v_if_eq (pc := 1165) (tgt := 1172) dL_isRefused_1165 (by decide) (fun c1165 => absurd c1165 (by decide)) (fun c1165 => ?_)
      refine vq_u (u' := u0 + 6 * i + 5) (by omega) ?_
      exact t68 G hW
set_option maxRecDepth 100000 in
set_option maxHeartbeats 400000 in
theorem l_ref3l {D : DT} {K : KT} {X : XT} {s : SG} {M : MT} {q xx : Nat} {lotv panv canv bigv hunv knv : Int32} {was : Int64} {u0 : Nat} (hI : INV X s q) (hq : q < 512) (hM : MV s M) (hxx : xx < 2147483648) (hF : RF9 s lotv panv canv bigv hunv knv) (hNC : NC3 K.2.2.2.1) (hpar : xx % 2 = 0) (hC : ∀ i, i < nC s → s.1 32 i = -1 ∨ btw (s.1 32 i) 0 4) (hU : u0 + 9 * nC s ≤ 1200) (kk : ∀ (w14 : Option Value) (G : GT), WD X s M G → V cL_isRefused yL_isRefused.cls 15 rm_isRefused D K 1421 [some (.ref (X.1 0 0)), some (.ref M.1.1), some (.int (nI xx)), some (.int 1), some (.int lotv), some (.int panv), some (.int canv), some (.int bigv), some (.int hunv), some (.int knv), some (.long was), none, some (.int 1), some (.int (nI (nC s))), w14] [] G (nu (u0 + 9 * nC s))) : ∀ (d i : Nat) (w14 : Option Value) (G : GT), i + d = nC s → WD X s M G → V cL_isRefused yL_isRefused.cls 15 rm_isRefused D K 1184 [some (.ref (X.1 0 0)), some (.ref M.1.1), some (.int (nI xx)), some (.int 1), some (.int lotv), some (.int panv), some (.int canv), some (.int bigv), some (.int hunv), some (.int knv), some (.long was), none, some (.int 1), some (.int (nI i)), w14] [] G (nu (u0 + 9 * i)) := by
  obtain ⟨b1, b2, b3, b4, b5, n1, n2, n3, n4, n5⟩ := hI.six hq
  obtain ⟨hlot, hpan, hcan, hbig, hhun, hkn⟩ := hF
  intro d
  induction d with
  | zero =>
    intro i w14 G he hW
    obtain rfl : i = nC s := by omega
    refine v_iload (pc := 1184) dL_isRefused_1184 rfl ?_
    refine v_aload_n (pc := 1186) dL_isRefused_1186 rfl rfl ?_
    refine v_iconst (pc := 1187) (v := 4) dL_isRefused_1187 (by decide) ?_
    refine vw_m (pc := 1188) (j := 4) hW dL_isRefused_1188 rfl (by decide) (x := nI (nC s)) (hM.2.2.2.2.1.trans n3) ?_
    refine v_icmp_ge (pc := 1189) (tgt := 1421) dL_isRefused_1189 (by decide) (fun c1189 => ?_) (fun c1189 => absurd c1189 (fun z => z (Int32.le_refl _)))
    exact kk w14 G hW
  | succ d ih =>
    intro i w14 G he hW
    have hi : i < nC s := by omega
    have hik : btw (nI i) 0 (nI (nC s) - 1) := btw_n (by omega) (by omega)
    have t08 : ∀ (w14 : Option Value) (G : GT), WD X s M G → V cL_isRefused yL_isRefused.cls 15 rm_isRefused D K 1408 [some (.ref (X.1 0 0)), some (.ref M.1.1), some (.int (nI xx)), some (.int 1), some (.int lotv), some (.int panv), some (.int canv), some (.int bigv), some (.int hunv), some (.int knv), some (.long was), none, some (.int 1), some (.int (nI i)), w14] [] G (nu (u0 + 9 * i + 8)) := by
      intro w14 G hW
      refine v_iconst (pc := 1408) (v := 1) dL_isRefused_1408 (by decide) ?_
      refine v_goto (pc := 1409) (tgt := 1413) dL_isRefused_1409 (by decide) ?_
      refine v_istore (pc := 1413) dL_isRefused_1413 rfl (by decide) ?_
      refine v_iinc (pc := 1415) dL_isRefused_1415 rfl (nI_1 _) rfl (by decide) ?_
      refine v_goto (pc := 1418) (tgt := 1184) dL_isRefused_1418 (by decide) ?_
      refine vq_u (u' := u0 + 9 * (i + 1)) (by omega) ?_
      exact ih (i + 1) _ G (by omega) hW
    refine v_iload (pc := 1184) dL_isRefused_1184 rfl ?_
    refine v_aload_n (pc := 1186) dL_isRefused_1186 rfl rfl ?_
    refine v_iconst (pc := 1187) (v := 4) dL_isRefused_1187 (by decide) ?_
    refine vw_m (pc := 1188) (j := 4) hW dL_isRefused_1188 rfl (by decide) (x := nI (nC s)) (hM.2.2.2.2.1.trans n3) ?_
    refine v_icmp_ge (pc := 1189) (tgt := 1421) dL_isRefused_1189 (by decide) (fun c1189 => absurd c1189 (nI_ge (by omega) (by omega))) (fun c1189 => ?_)
    refine v_iload (pc := 1192) dL_isRefused_1192 rfl ?_
    refine v_if_eq (pc := 1194) (tgt := 1421) dL_isRefused_1194 (by decide) (fun c1194 => absurd c1194 (by decide)) (fun c1194 => ?_)
    refine v_aload_n (pc := 1197) dL_isRefused_1197 rfl rfl ?_
    refine v_iload (pc := 1198) dL_isRefused_1198 rfl ?_
    refine v_iconst (pc := 1200) (v := 1) dL_isRefused_1200 (by decide) ?_
    refine vqV (pc := 1201) (u := u0 + 9 * i) (j := 1) (U := 1200) (As := [.int _, .int _]) hW dL_isRefused_1201 cw_L_97 im_yX8_ofCanopy se_yX8_ofCanopy rfl (q_ofCanopy _ 1 hW hI hq (by unfold kOf; rw [if_pos hik, if_pos (by decide)])) rfl rfl (Nat.le_of_ble_eq_true rfl) ⟨Nat.le_of_ble_eq_true rfl, Nat.le_of_ble_eq_true rfl⟩ ⟨by decide, by decide⟩ ⟨rfl, rfl⟩ (by omega) (fun v G hp => ?_)
    obtain ⟨rfl, hW⟩ := hp
    rw [nat_nI (show i < 2147483648 by omega), show ofS s i 1 = s.1 32 i from rfl]
    refine v_if_lt (pc := 1204) (tgt := 1211) dL_isRefused_1204 (by decide) (fun c1204 => ?_) (fun c1204 => ?_)
    · have hr9 : s.1 32 i = -1 := (hC i hi).elim (fun z => z) (fun z => absurd c1204 (n_nlt.mpr z.1))
      refine v_iconst (pc := 1211) (v := 0) dL_isRefused_1211 (by decide) ?_
      refine v_istore (pc := 1212) dL_isRefused_1212 rfl (by decide) ?_
      refine v_aload_n (pc := 1214) dL_isRefused_1214 rfl rfl ?_
      refine v_bipush (pc := 1215) (v := 19) dL_isRefused_1215 (by decide) ?_
      refine v_iload (pc := 1217) dL_isRefused_1217 rfl ?_
      refine v_iload_n (pc := 1219) dL_isRefused_1219 rfl rfl ?_
      refine v_if_eq (pc := 1220) (tgt := 1232) dL_isRefused_1220 (by decide) (fun c1220 => absurd c1220 (by decide)) (fun c1220 => ?_)
      refine v_iconst (pc := 1223) (v := (-1)) dL_isRefused_1223 (by decide) ?_
      refine v_iload_n (pc := 1224) dL_isRefused_1224 rfl rfl ?_
      refine v_bipush (pc := 1225) (v := 30) dL_isRefused_1225 (by decide) ?_
      refine v_nrem (pc := 1227) xx 30 dL_isRefused_1227 (by omega) (by decide) rfl rfl ?_
      refine v_isub (pc := 1228) dL_isRefused_1228 ?_
      refine v_goto (pc := 1229) (tgt := 1235) dL_isRefused_1229 (by decide) ?_
      refine v_iconst (pc := 1235) (v := 0) dL_isRefused_1235 (by decide) ?_
      refine v_iconst (pc := 1236) (v := 0) dL_isRefused_1236 (by decide) ?_
      refine vqN (pc := 1237) (u := u0 + 9 * i + 1) (j := 1) (U := 1200) (As := [.ref (X.1 0 0), .int _, .int _, .int _, .int _, .int _]) hNC dL_isRefused_1237 cw_L_142 sm_yL_off (ow_part _ _ 0 0 hW hI hq (by unfold kPart; rw [if_pos hik, if_neg (nb_lo (k := -1 - ((xx % 30 : Nat) : Int)) (sub_ti (k := -1) rfl (by omega) (by decide)) (l := 0) rfl (by omega))])) rfl rfl (Nat.le_of_ble_eq_true rfl) ⟨Nat.le_of_ble_eq_true rfl, Nat.le_of_ble_eq_true rfl⟩ ⟨by decide, by decide⟩ ⟨rfl, rfl⟩ (by omega) (fun v G hp => ?_)
      obtain ⟨rfl, hW⟩ := hp
      refine v_if_eq (pc := 1240) (tgt := 1412) dL_isRefused_1240 (by decide) (fun c1240 => absurd c1240 (by decide)) (fun c1240 => ?_)
      refine v_aload_n (pc := 1243) dL_isRefused_1243 rfl rfl ?_
      refine v_bipush (pc := 1244) (v := 21) dL_isRefused_1244 (by decide) ?_
      refine v_iload (pc := 1246) dL_isRefused_1246 rfl ?_
      refine v_iload_n (pc := 1248) dL_isRefused_1248 rfl rfl ?_
      refine v_if_eq (pc := 1249) (tgt := 1261) dL_isRefused_1249 (by decide) (fun c1249 => absurd c1249 (by decide)) (fun c1249 => ?_)
      refine v_iconst (pc := 1252) (v := (-1)) dL_isRefused_1252 (by decide) ?_
      refine v_iload_n (pc := 1253) dL_isRefused_1253 rfl rfl ?_
      refine v_bipush (pc := 1254) (v := 30) dL_isRefused_1254 (by decide) ?_
      refine v_nrem (pc := 1256) xx 30 dL_isRefused_1256 (by omega) (by decide) rfl rfl ?_
      refine v_isub (pc := 1257) dL_isRefused_1257 ?_
      refine v_goto (pc := 1258) (tgt := 1262) dL_isRefused_1258 (by decide) ?_
      refine v_iconst (pc := 1262) (v := 0) dL_isRefused_1262 (by decide) ?_
      refine v_iconst (pc := 1263) (v := 0) dL_isRefused_1263 (by decide) ?_
      refine vqN (pc := 1264) (u := u0 + 9 * i + 1 + 1) (j := 1) (U := 1200) (As := [.ref (X.1 0 0), .int _, .int _, .int _, .int _, .int _]) hNC dL_isRefused_1264 cw_L_146 sm_yL_no (nw_seal _ _ 0 0 hW hI hq (by unfold kSeal; exact if_neg (fun h => (nb_lo (k := -1 - ((xx % 30 : Nat) : Int)) (sub_ti (k := -1) rfl (by omega) (by decide)) (l := 0) rfl (by omega)) h.2))) rfl rfl (Nat.le_of_ble_eq_true rfl) ⟨Nat.le_of_ble_eq_true rfl, Nat.le_of_ble_eq_true rfl⟩ ⟨by decide, by decide⟩ ⟨rfl, rfl⟩ (by omega) (fun v G hp => ?_)
      obtain ⟨rfl, hW⟩ := hp
      refine v_if_eq (pc := 1267) (tgt := 1412) dL_isRefused_1267 (by decide) (fun c1267 => absurd c1267 (by decide)) (fun c1267 => ?_)
      refine v_aload_n (pc := 1270) dL_isRefused_1270 rfl rfl ?_
      refine v_bipush (pc := 1271) (v := 25) dL_isRefused_1271 (by decide) ?_
      refine v_iload (pc := 1273) dL_isRefused_1273 rfl ?_
      refine v_iload_n (pc := 1275) dL_isRefused_1275 rfl rfl ?_
      refine v_if_eq (pc := 1276) (tgt := 1283) dL_isRefused_1276 (by decide) (fun c1276 => absurd c1276 (by decide)) (fun c1276 => ?_)
      refine v_iconst (pc := 1279) (v := (-1)) dL_isRefused_1279 (by decide) ?_
      refine v_goto (pc := 1280) (tgt := 1290) dL_isRefused_1280 (by decide) ?_
      refine v_iconst (pc := 1290) (v := 0) dL_isRefused_1290 (by decide) ?_
      refine v_iconst (pc := 1291) (v := 0) dL_isRefused_1291 (by decide) ?_
      refine vqN (pc := 1292) (u := u0 + 9 * i + 1 + 1 + 1) (j := 1) (U := 1200) (As := [.ref (X.1 0 0), .int _, .int _, .int _, .int _, .int _]) hNC dL_isRefused_1292 cw_L_142 sm_yL_off (ow_ofCanopy _ _ 0 0 hW hI hq (by unfold kOf; rw [if_pos hik, if_neg (by decide)])) rfl rfl (Nat.le_of_ble_eq_true rfl) ⟨Nat.le_of_ble_eq_true rfl, Nat.le_of_ble_eq_true rfl⟩ ⟨by decide, by decide⟩ ⟨rfl, rfl⟩ (by omega) (fun v G hp => ?_)
      obtain ⟨rfl, hW⟩ := hp
      refine v_if_eq (pc := 1295) (tgt := 1412) dL_isRefused_1295 (by decide) (fun c1295 => absurd c1295 (by decide)) (fun c1295 => ?_)
      refine v_aload_n (pc := 1298) dL_isRefused_1298 rfl rfl ?_
      refine v_bipush (pc := 1299) (v := 26) dL_isRefused_1299 (by decide) ?_
      refine v_iload (pc := 1301) dL_isRefused_1301 rfl ?_
      refine v_iload_n (pc := 1303) dL_isRefused_1303 rfl rfl ?_
      refine v_if_eq (pc := 1304) (tgt := 1316) dL_isRefused_1304 (by decide) (fun c1304 => absurd c1304 (by decide)) (fun c1304 => ?_)
      refine v_iconst (pc := 1307) (v := 2) dL_isRefused_1307 (by decide) ?_
      refine v_iload_n (pc := 1308) dL_isRefused_1308 rfl rfl ?_
      refine v_bipush (pc := 1309) (v := 30) dL_isRefused_1309 (by decide) ?_
      refine v_nrem (pc := 1311) xx 30 dL_isRefused_1311 (by omega) (by decide) rfl rfl ?_
      refine v_isub (pc := 1312) dL_isRefused_1312 ?_
      refine v_goto (pc := 1313) (tgt := 1318) dL_isRefused_1313 (by decide) ?_
      refine v_iconst (pc := 1318) (v := 0) dL_isRefused_1318 (by decide) ?_
      refine v_iconst (pc := 1319) (v := 0) dL_isRefused_1319 (by decide) ?_
      refine vqN (pc := 1320) (u := u0 + 9 * i + 1 + 1 + 1 + 1) (j := 1) (U := 1200) (As := [.ref (X.1 0 0), .int _, .int _, .int _, .int _, .int _]) hNC dL_isRefused_1320 cw_L_142 sm_yL_off (ow_lifeAnew _ _ 0 0 hW hI hq (by unfold kOf; rw [if_pos hik, if_neg (nb_lo (k := 2 - ((xx % 30 : Nat) : Int)) (sub_ti (k := 2) rfl (by omega) (by decide)) (l := 3) rfl (by omega))])) rfl rfl (Nat.le_of_ble_eq_true rfl) ⟨Nat.le_of_ble_eq_true rfl, Nat.le_of_ble_eq_true rfl⟩ ⟨by decide, by decide⟩ ⟨rfl, rfl⟩ (by omega) (fun v G hp => ?_)
      obtain ⟨rfl, hW⟩ := hp
      refine v_if_eq (pc := 1323) (tgt := 1412) dL_isRefused_1323 (by decide) (fun c1323 => absurd c1323 (by decide)) (fun c1323 => ?_)
      refine v_iload (pc := 1326) dL_isRefused_1326 rfl ?_
      refine v_if_eq (pc := 1328) (tgt := 1390) dL_isRefused_1328 (by decide) (fun c1328 => ?_) (fun c1328 => absurd c1328 (by decide))
      refine v_aload_n (pc := 1390) dL_isRefused_1390 rfl rfl ?_
      refine v_bipush (pc := 1391) (v := 22) dL_isRefused_1391 (by decide) ?_
      refine v_iload (pc := 1393) dL_isRefused_1393 rfl ?_
      refine v_iconst (pc := 1395) (v := 0) dL_isRefused_1395 (by decide) ?_
      refine v_iconst (pc := 1396) (v := 0) dL_isRefused_1396 (by decide) ?_
      refine v_iconst (pc := 1397) (v := 0) dL_isRefused_1397 (by decide) ?_
      refine vqL (pc := 1398) (u := u0 + 9 * i + 1 + 1 + 1 + 1 + 1) (j := 1) (U := 1200) (As := [.ref (X.1 0 0), .int _, .int _, .int _, .int _, .int _]) hNC dL_isRefused_1398 ll_act.1 ll_act.2.1 wl_act ll_act.2.2.2 ll_act.2.2.1 (xIS_use _ 0 0 0 hW hI hq (by unfold kUse; rw [if_pos hik, nat_nI (show i < 2147483648 by omega), if_neg (fun h => h.1 hr9)])) rfl rfl (Nat.le_of_ble_eq_true rfl) ⟨Nat.le_of_ble_eq_true rfl, Nat.le_of_ble_eq_true rfl⟩ ⟨by decide, by decide⟩ ⟨rfl, rfl⟩ (by omega) (fun v G hp => ?_)
      obtain ⟨rfl, hW⟩ := hp
      refine v_ldcL (pc := 1401) dL_isRefused_1401 k_L_113 ?_
      refine v_lcmp (pc := 1404) dL_isRefused_1404 ?_
      refine v_if_ne (pc := 1405) (tgt := 1412) dL_isRefused_1405 (by decide) (fun c1405 => absurd c1405 (d_ne rfl)) (fun c1405 => ?_)
      refine vq_u (u' := u0 + 9 * i + 8) (by omega) ?_
      exact t08 _ G hW
    · have hr9 : ¬ s.1 32 i = -1 := fun z => c1204 (by rw [z]; decide)
      refine v_iconst (pc := 1207) (v := 1) dL_isRefused_1207 (by decide) ?_
      refine v_goto (pc := 1208) (tgt := 1212) dL_isRefused_1208 (by decide) ?_
      refine v_istore (pc := 1212) dL_isRefused_1212 rfl (by decide) ?_
      refine v_aload_n (pc := 1214) dL_isRefused_1214 rfl rfl ?_
      refine v_bipush (pc := 1215) (v := 19) dL_isRefused_1215 (by decide) ?_
      refine v_iload (pc := 1217) dL_isRefused_1217 rfl ?_
      refine v_iload_n (pc := 1219) dL_isRefused_1219 rfl rfl ?_
      refine v_if_eq (pc := 1220) (tgt := 1232) dL_isRefused_1220 (by decide) (fun c1220 => absurd c1220 (by decide)) (fun c1220 => ?_)
      refine v_iconst (pc := 1223) (v := (-1)) dL_isRefused_1223 (by decide) ?_
      refine v_iload_n (pc := 1224) dL_isRefused_1224 rfl rfl ?_
      refine v_bipush (pc := 1225) (v := 30) dL_isRefused_1225 (by decide) ?_
      refine v_nrem (pc := 1227) xx 30 dL_isRefused_1227 (by omega) (by decide) rfl rfl ?_
      refine v_isub (pc := 1228) dL_isRefused_1228 ?_
      refine v_goto (pc := 1229) (tgt := 1235) dL_isRefused_1229 (by decide) ?_
      refine v_iconst (pc := 1235) (v := 0) dL_isRefused_1235 (by decide) ?_
      refine v_iconst (pc := 1236) (v := 0) dL_isRefused_1236 (by decide) ?_
      refine vqN (pc := 1237) (u := u0 + 9 * i + 1) (j := 1) (U := 1200) (As := [.ref (X.1 0 0), .int _, .int _, .int _, .int _, .int _]) hNC dL_isRefused_1237 cw_L_142 sm_yL_off (ow_part _ _ 0 0 hW hI hq (by unfold kPart; rw [if_pos hik, if_neg (nb_lo (k := -1 - ((xx % 30 : Nat) : Int)) (sub_ti (k := -1) rfl (by omega) (by decide)) (l := 0) rfl (by omega))])) rfl rfl (Nat.le_of_ble_eq_true rfl) ⟨Nat.le_of_ble_eq_true rfl, Nat.le_of_ble_eq_true rfl⟩ ⟨by decide, by decide⟩ ⟨rfl, rfl⟩ (by omega) (fun v G hp => ?_)
      obtain ⟨rfl, hW⟩ := hp
      refine v_if_eq (pc := 1240) (tgt := 1412) dL_isRefused_1240 (by decide) (fun c1240 => absurd c1240 (by decide)) (fun c1240 => ?_)
      refine v_aload_n (pc := 1243) dL_isRefused_1243 rfl rfl ?_
      refine v_bipush (pc := 1244) (v := 21) dL_isRefused_1244 (by decide) ?_
      refine v_iload (pc := 1246) dL_isRefused_1246 rfl ?_
      refine v_iload_n (pc := 1248) dL_isRefused_1248 rfl rfl ?_
      refine v_if_eq (pc := 1249) (tgt := 1261) dL_isRefused_1249 (by decide) (fun c1249 => absurd c1249 (by decide)) (fun c1249 => ?_)
      refine v_iconst (pc := 1252) (v := (-1)) dL_isRefused_1252 (by decide) ?_
      refine v_iload_n (pc := 1253) dL_isRefused_1253 rfl rfl ?_
      refine v_bipush (pc := 1254) (v := 30) dL_isRefused_1254 (by decide) ?_
      refine v_nrem (pc := 1256) xx 30 dL_isRefused_1256 (by omega) (by decide) rfl rfl ?_
      refine v_isub (pc := 1257) dL_isRefused_1257 ?_
      refine v_goto (pc := 1258) (tgt := 1262) dL_isRefused_1258 (by decide) ?_
      refine v_iconst (pc := 1262) (v := 0) dL_isRefused_1262 (by decide) ?_
      refine v_iconst (pc := 1263) (v := 0) dL_isRefused_1263 (by decide) ?_
      refine vqN (pc := 1264) (u := u0 + 9 * i + 1 + 1) (j := 1) (U := 1200) (As := [.ref (X.1 0 0), .int _, .int _, .int _, .int _, .int _]) hNC dL_isRefused_1264 cw_L_146 sm_yL_no (nw_seal _ _ 0 0 hW hI hq (by unfold kSeal; exact if_neg (fun h => (nb_lo (k := -1 - ((xx % 30 : Nat) : Int)) (sub_ti (k := -1) rfl (by omega) (by decide)) (l := 0) rfl (by omega)) h.2))) rfl rfl (Nat.le_of_ble_eq_true rfl) ⟨Nat.le_of_ble_eq_true rfl, Nat.le_of_ble_eq_true rfl⟩ ⟨by decide, by decide⟩ ⟨rfl, rfl⟩ (by omega) (fun v G hp => ?_)
      obtain ⟨rfl, hW⟩ := hp
      refine v_if_eq (pc := 1267) (tgt := 1412) dL_isRefused_1267 (by decide) (fun c1267 => absurd c1267 (by decide)) (fun c1267 => ?_)
      refine v_aload_n (pc := 1270) dL_isRefused_1270 rfl rfl ?_
      refine v_bipush (pc := 1271) (v := 25) dL_isRefused_1271 (by decide) ?_
      refine v_iload (pc := 1273) dL_isRefused_1273 rfl ?_
      refine v_iload_n (pc := 1275) dL_isRefused_1275 rfl rfl ?_
      refine v_if_eq (pc := 1276) (tgt := 1283) dL_isRefused_1276 (by decide) (fun c1276 => absurd c1276 (by decide)) (fun c1276 => ?_)
      refine v_iconst (pc := 1279) (v := (-1)) dL_isRefused_1279 (by decide) ?_
      refine v_goto (pc := 1280) (tgt := 1290) dL_isRefused_1280 (by decide) ?_
      refine v_iconst (pc := 1290) (v := 0) dL_isRefused_1290 (by decide) ?_
      refine v_iconst (pc := 1291) (v := 0) dL_isRefused_1291 (by decide) ?_
      refine vqN (pc := 1292) (u := u0 + 9 * i + 1 + 1 + 1) (j := 1) (U := 1200) (As := [.ref (X.1 0 0), .int _, .int _, .int _, .int _, .int _]) hNC dL_isRefused_1292 cw_L_142 sm_yL_off (ow_ofCanopy _ _ 0 0 hW hI hq (by unfold kOf; rw [if_pos hik, if_neg (by decide)])) rfl rfl (Nat.le_of_ble_eq_true rfl) ⟨Nat.le_of_ble_eq_true rfl, Nat.le_of_ble_eq_true rfl⟩ ⟨by decide, by decide⟩ ⟨rfl, rfl⟩ (by omega) (fun v G hp => ?_)
      obtain ⟨rfl, hW⟩ := hp
      refine v_if_eq (pc := 1295) (tgt := 1412) dL_isRefused_1295 (by decide) (fun c1295 => absurd c1295 (by decide)) (fun c1295 => ?_)
      refine v_aload_n (pc := 1298) dL_isRefused_1298 rfl rfl ?_
      refine v_bipush (pc := 1299) (v := 26) dL_isRefused_1299 (by decide) ?_
      refine v_iload (pc := 1301) dL_isRefused_1301 rfl ?_
      refine v_iload_n (pc := 1303) dL_isRefused_1303 rfl rfl ?_
      refine v_if_eq (pc := 1304) (tgt := 1316) dL_isRefused_1304 (by decide) (fun c1304 => absurd c1304 (by decide)) (fun c1304 => ?_)
      refine v_iconst (pc := 1307) (v := 2) dL_isRefused_1307 (by decide) ?_
      refine v_iload_n (pc := 1308) dL_isRefused_1308 rfl rfl ?_
      refine v_bipush (pc := 1309) (v := 30) dL_isRefused_1309 (by decide) ?_
      refine v_nrem (pc := 1311) xx 30 dL_isRefused_1311 (by omega) (by decide) rfl rfl ?_
      refine v_isub (pc := 1312) dL_isRefused_1312 ?_
      refine v_goto (pc := 1313) (tgt := 1318) dL_isRefused_1313 (by decide) ?_
      refine v_iconst (pc := 1318) (v := 0) dL_isRefused_1318 (by decide) ?_
      refine v_iconst (pc := 1319) (v := 0) dL_isRefused_1319 (by decide) ?_
      refine vqN (pc := 1320) (u := u0 + 9 * i + 1 + 1 + 1 + 1) (j := 1) (U := 1200) (As := [.ref (X.1 0 0), .int _, .int _, .int _, .int _, .int _]) hNC dL_isRefused_1320 cw_L_142 sm_yL_off (ow_lifeAnew _ _ 0 0 hW hI hq (by unfold kOf; rw [if_pos hik, if_neg (nb_lo (k := 2 - ((xx % 30 : Nat) : Int)) (sub_ti (k := 2) rfl (by omega) (by decide)) (l := 3) rfl (by omega))])) rfl rfl (Nat.le_of_ble_eq_true rfl) ⟨Nat.le_of_ble_eq_true rfl, Nat.le_of_ble_eq_true rfl⟩ ⟨by decide, by decide⟩ ⟨rfl, rfl⟩ (by omega) (fun v G hp => ?_)
      obtain ⟨rfl, hW⟩ := hp
      refine v_if_eq (pc := 1323) (tgt := 1412) dL_isRefused_1323 (by decide) (fun c1323 => absurd c1323 (by decide)) (fun c1323 => ?_)
      refine v_iload (pc := 1326) dL_isRefused_1326 rfl ?_
      refine v_if_eq (pc := 1328) (tgt := 1390) dL_isRefused_1328 (by decide) (fun c1328 => absurd c1328 (by decide)) (fun c1328 => ?_)
      refine v_aload_n (pc := 1331) dL_isRefused_1331 rfl rfl ?_
      refine v_bipush (pc := 1332) (v := 19) dL_isRefused_1332 (by decide) ?_
      refine v_iload (pc := 1334) dL_isRefused_1334 rfl ?_
      refine v_iconst (pc := 1336) (v := 0) dL_isRefused_1336 (by decide) ?_
      refine v_iconst (pc := 1337) (v := 0) dL_isRefused_1337 (by decide) ?_
      refine v_iconst (pc := 1338) (v := 0) dL_isRefused_1338 (by decide) ?_
      refine vqL (pc := 1339) (u := u0 + 9 * i + 1 + 1 + 1 + 1 + 1) (j := 1) (U := 1200) (As := [.ref (X.1 0 0), .int _, .int _, .int _, .int _, .int _]) hNC dL_isRefused_1339 ll_act.1 ll_act.2.1 wl_act ll_act.2.2.2 ll_act.2.2.1 (xIS_part _ 0 0 0 hW hI hq (by unfold kPart; rw [if_pos hik, nat_nI (show i < 2147483648 by omega), if_pos (by decide), if_pos (Or.inr hr9)])) rfl rfl (Nat.le_of_ble_eq_true rfl) ⟨Nat.le_of_ble_eq_true rfl, Nat.le_of_ble_eq_true rfl⟩ ⟨by decide, by decide⟩ ⟨rfl, rfl⟩ (by omega) (fun v G hp => ?_)
      obtain ⟨rfl, hW⟩ := hp
      refine v_ldcL (pc := 1342) dL_isRefused_1342 k_L_113 ?_
      refine v_lcmp (pc := 1345) dL_isRefused_1345 ?_
      refine v_if_ne (pc := 1346) (tgt := 1412) dL_isRefused_1346 (by decide) (fun c1346 => absurd c1346 (d_ne rfl)) (fun c1346 => ?_)
      refine v_aload_n (pc := 1349) dL_isRefused_1349 rfl rfl ?_
      refine v_bipush (pc := 1350) (v := 21) dL_isRefused_1350 (by decide) ?_
      refine v_iload (pc := 1352) dL_isRefused_1352 rfl ?_
      refine v_iconst (pc := 1354) (v := 0) dL_isRefused_1354 (by decide) ?_
      refine v_iconst (pc := 1355) (v := 0) dL_isRefused_1355 (by decide) ?_
      refine v_iconst (pc := 1356) (v := 0) dL_isRefused_1356 (by decide) ?_
      refine vqL (pc := 1357) (u := u0 + 9 * i + 1 + 1 + 1 + 1 + 1 + 1) (j := 1) (U := 1200) (As := [.ref (X.1 0 0), .int _, .int _, .int _, .int _, .int _]) hNC dL_isRefused_1357 ll_act.1 ll_act.2.1 wl_act ll_act.2.2.2 ll_act.2.2.1 (xIS_seal _ 0 0 0 hW hI hq (by unfold kSeal; rw [if_pos ⟨hik, by decide⟩, nat_nI (show i < 2147483648 by omega), if_neg (fun h => hr9 h.1)])) rfl rfl (Nat.le_of_ble_eq_true rfl) ⟨Nat.le_of_ble_eq_true rfl, Nat.le_of_ble_eq_true rfl⟩ ⟨by decide, by decide⟩ ⟨rfl, rfl⟩ (by omega) (fun v G hp => ?_)
      obtain ⟨rfl, hW⟩ := hp
      refine v_ldcL (pc := 1360) dL_isRefused_1360 k_L_113 ?_
      refine v_lcmp (pc := 1363) dL_isRefused_1363 ?_
      refine v_if_ne (pc := 1364) (tgt := 1412) dL_isRefused_1364 (by decide) (fun c1364 => absurd c1364 (d_ne rfl)) (fun c1364 => ?_)
      refine v_aload_n (pc := 1367) dL_isRefused_1367 rfl rfl ?_
      refine v_bipush (pc := 1368) (v := 23) dL_isRefused_1368 (by decide) ?_
      refine v_iload (pc := 1370) dL_isRefused_1370 rfl ?_
      refine v_iload_n (pc := 1372) dL_isRefused_1372 rfl rfl ?_
      refine v_iconst (pc := 1373) (v := 2) dL_isRefused_1373 (by decide) ?_
      refine v_nrem (pc := 1374) xx 2 dL_isRefused_1374 (by omega) (by decide) rfl rfl ?_
      rw [hpar]
      refine v_iconst (pc := 1375) (v := 0) dL_isRefused_1375 (by decide) ?_
      refine v_iconst (pc := 1376) (v := 0) dL_isRefused_1376 (by decide) ?_
      refine vqL (pc := 1377) (u := u0 + 9 * i + 1 + 1 + 1 + 1 + 1 + 1 + 1) (j := 1) (U := 1200) (As := [.ref (X.1 0 0), .int _, .int _, .int _, .int _, .int _]) hNC dL_isRefused_1377 ll_act.1 ll_act.2.1 wl_act ll_act.2.2.2 ll_act.2.2.1 (xIS_wet0 _ 0 0 hW hI hq (by unfold kWet; rw [if_pos hik, nat_nI (show i < 2147483648 by omega), if_neg hr9])) rfl rfl (Nat.le_of_ble_eq_true rfl) ⟨Nat.le_of_ble_eq_true rfl, Nat.le_of_ble_eq_true rfl⟩ ⟨by decide, by decide⟩ ⟨rfl, rfl⟩ (by omega) (fun v G hp => ?_)
      obtain ⟨rfl, hW⟩ := hp
      refine v_ldcL (pc := 1380) dL_isRefused_1380 k_L_113 ?_
      refine v_lcmp (pc := 1383) dL_isRefused_1383 ?_
      refine v_if_ne (pc := 1384) (tgt := 1412) dL_isRefused_1384 (by decide) (fun c1384 => absurd c1384 (d_ne rfl)) (fun c1384 => ?_)
      refine v_goto (pc := 1387) (tgt := 1408) dL_isRefused_1387 (by decide) ?_
      refine vq_u (u' := u0 + 9 * i + 8) (by omega) ?_
      exact t08 _ G hW
set_option maxRecDepth 100000 in
set_option maxHeartbeats 400000 in
theorem m_refl {D : DT} {K : KT} {X : XT} {s : SG} {M : MT} {q xx : Nat} {lotv panv canv bigv hunv knv : Int32} {was : Int64} {h9 t9 r9 : Nat} (e1 : s.1 24 0 = nI h9) (e2 : s.1 25 0 = nI t9) (e3 : s.1 26 0 = nI r9) (hh : h9 < 101) (ht9 : t9 < 101) (hr : r9 < 4) (hI : INV X s q) (hq : q < 512) (hM : MV s M) (hxx : xx < 2147483648) (hF : RF9 s lotv panv canv bigv hunv knv) (hNC : NC3 K.2.2.2.1) (kk : ∀ (G : GT), WD X s M G → V cL_isRefused yL_isRefused.cls 15 rm_isRefused D K 837 [some (.ref (X.1 0 0)), some (.ref M.1.1), some (.int (nI xx)), some (.int 1), some (.int lotv), some (.int panv), some (.int canv), some (.int bigv), some (.int hunv), some (.int knv), some (.long was), none, none, none, none] [] G (nu 440)) (G : GT) (hW : WD X s M G) : V cL_isRefused yL_isRefused.cls 15 rm_isRefused D K 154 [some (.ref (X.1 0 0)), some (.ref M.1.1), some (.int (nI xx)), some (.int 1), some (.int lotv), some (.int panv), some (.int canv), some (.int bigv), some (.int hunv), some (.int knv), some (.long was), none, none, none, none] [] G (nu 400) := by
  obtain ⟨b1, b2, b3, b4, b5, n1, n2, n3, n4, n5⟩ := hI.six hq
  obtain ⟨hlot, hpan, hcan, hbig, hhun, hkn⟩ := hF

  refine v_aload_n (pc := 154) dL_isRefused_154 rfl rfl ?_
  refine v_iconst (pc := 155) (v := 0) dL_isRefused_155 (by decide) ?_
  refine v_iload (pc := 156) dL_isRefused_156 rfl ?_
  refine v_iconst (pc := 158) (v := 5) dL_isRefused_158 (by decide) ?_
  refine v_iconst (pc := 159) (v := 5) dL_isRefused_159 (by decide) ?_
  refine v_iconst (pc := 160) (v := 0) dL_isRefused_160 (by decide) ?_
  refine vqN (pc := 161) (u := 400) (j := 1) (U := 1200) (As := [.ref (X.1 0 0), .int _, .int _, .int _, .int _, .int _]) hNC dL_isRefused_161 cw_L_142 sm_yL_off (ow_lot _ 5 5 0 hW hI hq (by unfold kLot; exact if_neg (fun h => hbig h.1))) rfl rfl (Nat.le_of_ble_eq_true rfl) ⟨Nat.le_of_ble_eq_true rfl, Nat.le_of_ble_eq_true rfl⟩ ⟨by decide, by decide⟩ ⟨rfl, rfl⟩ (by omega) (fun v G hp => ?_)
  obtain ⟨rfl, hW⟩ := hp
  refine v_if_eq (pc := 164) (tgt := 841) dL_isRefused_164 (by decide) (fun c164 => absurd c164 (by decide)) (fun c164 => ?_)
  refine v_aload_n (pc := 167) dL_isRefused_167 rfl rfl ?_
  refine v_iconst (pc := 168) (v := 0) dL_isRefused_168 (by decide) ?_
  refine v_iconst (pc := 169) (v := 5) dL_isRefused_169 (by decide) ?_
  refine v_iload (pc := 170) dL_isRefused_170 rfl ?_
  refine v_iconst (pc := 172) (v := 5) dL_isRefused_172 (by decide) ?_
  refine v_iconst (pc := 173) (v := 0) dL_isRefused_173 (by decide) ?_
  refine vqN (pc := 174) (u := 400 + 1) (j := 1) (U := 1200) (As := [.ref (X.1 0 0), .int _, .int _, .int _, .int _, .int _]) hNC dL_isRefused_174 cw_L_142 sm_yL_off (ow_lot 5 _ 5 0 hW hI hq (by unfold kLot; exact if_neg (fun h => hbig h.2.1))) rfl rfl (Nat.le_of_ble_eq_true rfl) ⟨Nat.le_of_ble_eq_true rfl, Nat.le_of_ble_eq_true rfl⟩ ⟨by decide, by decide⟩ ⟨rfl, rfl⟩ (by omega) (fun v G hp => ?_)
  obtain ⟨rfl, hW⟩ := hp
  refine v_if_eq (pc := 177) (tgt := 841) dL_isRefused_177 (by decide) (fun c177 => absurd c177 (by decide)) (fun c177 => ?_)
  refine v_aload_n (pc := 180) dL_isRefused_180 rfl rfl ?_
  refine v_iconst (pc := 181) (v := 0) dL_isRefused_181 (by decide) ?_
  refine v_iconst (pc := 182) (v := 5) dL_isRefused_182 (by decide) ?_
  refine v_iconst (pc := 183) (v := 5) dL_isRefused_183 (by decide) ?_
  refine v_iload (pc := 184) dL_isRefused_184 rfl ?_
  refine v_iconst (pc := 186) (v := 0) dL_isRefused_186 (by decide) ?_
  refine vqN (pc := 187) (u := 400 + 1 + 1) (j := 1) (U := 1200) (As := [.ref (X.1 0 0), .int _, .int _, .int _, .int _, .int _]) hNC dL_isRefused_187 cw_L_142 sm_yL_off (ow_lot 5 5 _ 0 hW hI hq (by unfold kLot; exact if_neg (fun h => hbig h.2.2))) rfl rfl (Nat.le_of_ble_eq_true rfl) ⟨Nat.le_of_ble_eq_true rfl, Nat.le_of_ble_eq_true rfl⟩ ⟨by decide, by decide⟩ ⟨rfl, rfl⟩ (by omega) (fun v G hp => ?_)
  obtain ⟨rfl, hW⟩ := hp
  refine v_if_eq (pc := 190) (tgt := 841) dL_isRefused_190 (by decide) (fun c190 => absurd c190 (by decide)) (fun c190 => ?_)
  refine v_aload_n (pc := 193) dL_isRefused_193 rfl rfl ?_
  refine v_iconst (pc := 194) (v := 1) dL_isRefused_194 (by decide) ?_
  refine v_iload (pc := 195) dL_isRefused_195 rfl ?_
  refine v_iconst (pc := 197) (v := 0) dL_isRefused_197 (by decide) ?_
  refine v_iconst (pc := 198) (v := 0) dL_isRefused_198 (by decide) ?_
  refine v_iconst (pc := 199) (v := 0) dL_isRefused_199 (by decide) ?_
  refine vqN (pc := 200) (u := 400 + 1 + 1 + 1) (j := 1) (U := 1200) (As := [.ref (X.1 0 0), .int _, .int _, .int _, .int _, .int _]) hNC dL_isRefused_200 cw_L_146 sm_yL_no (nw_sun _ 0 0 0 hW hI hq (by unfold kSun; exact if_neg hlot)) rfl rfl (Nat.le_of_ble_eq_true rfl) ⟨Nat.le_of_ble_eq_true rfl, Nat.le_of_ble_eq_true rfl⟩ ⟨by decide, by decide⟩ ⟨rfl, rfl⟩ (by omega) (fun v G hp => ?_)
  obtain ⟨rfl, hW⟩ := hp
  refine v_if_eq (pc := 203) (tgt := 841) dL_isRefused_203 (by decide) (fun c203 => absurd c203 (by decide)) (fun c203 => ?_)
  refine v_aload_n (pc := 206) dL_isRefused_206 rfl rfl ?_
  refine v_iconst (pc := 207) (v := 2) dL_isRefused_207 (by decide) ?_
  refine v_iload (pc := 208) dL_isRefused_208 rfl ?_
  refine v_iconst (pc := 210) (v := 0) dL_isRefused_210 (by decide) ?_
  refine v_iconst (pc := 211) (v := 0) dL_isRefused_211 (by decide) ?_
  refine v_bipush (pc := 212) (v := 9) dL_isRefused_212 (by decide) ?_
  refine vqN (pc := 214) (u := 400 + 1 + 1 + 1 + 1) (j := 1) (U := 1200) (As := [.ref (X.1 0 0), .int _, .int _, .int _, .int _, .int _]) hNC dL_isRefused_214 cw_L_146 sm_yL_no (nw_panel _ 0 0 9 hW hI hq (by unfold kPan; exact if_neg hlot)) rfl rfl (Nat.le_of_ble_eq_true rfl) ⟨Nat.le_of_ble_eq_true rfl, Nat.le_of_ble_eq_true rfl⟩ ⟨by decide, by decide⟩ ⟨rfl, rfl⟩ (by omega) (fun v G hp => ?_)
  obtain ⟨rfl, hW⟩ := hp
  refine v_if_eq (pc := 217) (tgt := 841) dL_isRefused_217 (by decide) (fun c217 => absurd c217 (by decide)) (fun c217 => ?_)
  refine v_aload_n (pc := 220) dL_isRefused_220 rfl rfl ?_
  refine v_iconst (pc := 221) (v := 3) dL_isRefused_221 (by decide) ?_
  refine v_iload (pc := 222) dL_isRefused_222 rfl ?_
  refine v_iconst (pc := 224) (v := 0) dL_isRefused_224 (by decide) ?_
  refine v_iconst (pc := 225) (v := 0) dL_isRefused_225 (by decide) ?_
  refine v_iconst (pc := 226) (v := 0) dL_isRefused_226 (by decide) ?_
  refine vqN (pc := 227) (u := 400 + 1 + 1 + 1 + 1 + 1) (j := 1) (U := 1200) (As := [.ref (X.1 0 0), .int _, .int _, .int _, .int _, .int _]) hNC dL_isRefused_227 cw_L_146 sm_yL_no (nw_strength _ 0 0 0 hW hI hq (by unfold kPl; exact if_neg hpan)) rfl rfl (Nat.le_of_ble_eq_true rfl) ⟨Nat.le_of_ble_eq_true rfl, Nat.le_of_ble_eq_true rfl⟩ ⟨by decide, by decide⟩ ⟨rfl, rfl⟩ (by omega) (fun v G hp => ?_)
  obtain ⟨rfl, hW⟩ := hp
  refine v_if_eq (pc := 230) (tgt := 841) dL_isRefused_230 (by decide) (fun c230 => absurd c230 (by decide)) (fun c230 => ?_)
  refine v_aload_n (pc := 233) dL_isRefused_233 rfl rfl ?_
  refine v_iconst (pc := 234) (v := 4) dL_isRefused_234 (by decide) ?_
  refine v_iload (pc := 235) dL_isRefused_235 rfl ?_
  refine v_iconst (pc := 237) (v := 0) dL_isRefused_237 (by decide) ?_
  refine v_iconst (pc := 238) (v := 0) dL_isRefused_238 (by decide) ?_
  refine v_iconst (pc := 239) (v := 0) dL_isRefused_239 (by decide) ?_
  refine vqN (pc := 240) (u := 400 + 1 + 1 + 1 + 1 + 1 + 1) (j := 1) (U := 1200) (As := [.ref (X.1 0 0), .int _, .int _, .int _, .int _, .int _]) hNC dL_isRefused_240 cw_L_146 sm_yL_no (nw_roll _ 0 0 0 hW hI hq (by unfold kRoll; exact if_neg hlot)) rfl rfl (Nat.le_of_ble_eq_true rfl) ⟨Nat.le_of_ble_eq_true rfl, Nat.le_of_ble_eq_true rfl⟩ ⟨by decide, by decide⟩ ⟨rfl, rfl⟩ (by omega) (fun v G hp => ?_)
  obtain ⟨rfl, hW⟩ := hp
  refine v_if_eq (pc := 243) (tgt := 841) dL_isRefused_243 (by decide) (fun c243 => absurd c243 (by decide)) (fun c243 => ?_)
  refine v_aload_n (pc := 246) dL_isRefused_246 rfl rfl ?_
  refine v_iconst (pc := 247) (v := 5) dL_isRefused_247 (by decide) ?_
  refine v_iload (pc := 248) dL_isRefused_248 rfl ?_
  refine v_iload (pc := 250) dL_isRefused_250 rfl ?_
  refine v_bipush (pc := 252) (v := 9) dL_isRefused_252 (by decide) ?_
  refine v_iconst (pc := 254) (v := 0) dL_isRefused_254 (by decide) ?_
  refine vqN (pc := 255) (u := 400 + 1 + 1 + 1 + 1 + 1 + 1 + 1) (j := 1) (U := 1200) (As := [.ref (X.1 0 0), .int _, .int _, .int _, .int _, .int _]) hNC dL_isRefused_255 cw_L_146 sm_yL_no (nw_seam _ _ 9 0 hW hI hq (by unfold kSeam; exact if_neg (fun h => hpan h.1))) rfl rfl (Nat.le_of_ble_eq_true rfl) ⟨Nat.le_of_ble_eq_true rfl, Nat.le_of_ble_eq_true rfl⟩ ⟨by decide, by decide⟩ ⟨rfl, rfl⟩ (by omega) (fun v G hp => ?_)
  obtain ⟨rfl, hW⟩ := hp
  refine v_if_eq (pc := 258) (tgt := 841) dL_isRefused_258 (by decide) (fun c258 => absurd c258 (by decide)) (fun c258 => ?_)
  refine v_aload_n (pc := 261) dL_isRefused_261 rfl rfl ?_
  refine v_bipush (pc := 262) (v := 6) dL_isRefused_262 (by decide) ?_
  refine v_iload_n (pc := 264) dL_isRefused_264 rfl rfl ?_
  refine v_if_eq (pc := 265) (tgt := 277) dL_isRefused_265 (by decide) (fun c265 => absurd c265 (by decide)) (fun c265 => ?_)
  refine v_iconst (pc := 268) (v := (-1)) dL_isRefused_268 (by decide) ?_
  refine v_iload_n (pc := 269) dL_isRefused_269 rfl rfl ?_
  refine v_bipush (pc := 270) (v := 30) dL_isRefused_270 (by decide) ?_
  refine v_nrem (pc := 272) xx 30 dL_isRefused_272 (by omega) (by decide) rfl rfl ?_
  refine v_isub (pc := 273) dL_isRefused_273 ?_
  refine v_goto (pc := 274) (tgt := 285) dL_isRefused_274 (by decide) ?_
  refine v_iconst (pc := 285) (v := 0) dL_isRefused_285 (by decide) ?_
  refine v_iconst (pc := 286) (v := 0) dL_isRefused_286 (by decide) ?_
  refine v_iconst (pc := 287) (v := 0) dL_isRefused_287 (by decide) ?_
  refine vqN (pc := 288) (u := 400 + 1 + 1 + 1 + 1 + 1 + 1 + 1 + 1) (j := 1) (U := 1200) (As := [.ref (X.1 0 0), .int _, .int _, .int _, .int _, .int _]) hNC dL_isRefused_288 cw_L_146 sm_yL_no (nw_rip _ 0 0 0 hW hI hq (by unfold kRip; exact if_neg (fun h => (nb_lo (k := -1 - ((xx % 30 : Nat) : Int)) (sub_ti (k := -1) rfl (by omega) (by decide)) (l := 0) rfl (by omega)) h.1))) rfl rfl (Nat.le_of_ble_eq_true rfl) ⟨Nat.le_of_ble_eq_true rfl, Nat.le_of_ble_eq_true rfl⟩ ⟨by decide, by decide⟩ ⟨rfl, rfl⟩ (by omega) (fun v G hp => ?_)
  obtain ⟨rfl, hW⟩ := hp
  refine v_if_eq (pc := 291) (tgt := 841) dL_isRefused_291 (by decide) (fun c291 => absurd c291 (by decide)) (fun c291 => ?_)
  refine v_aload_n (pc := 294) dL_isRefused_294 rfl rfl ?_
  refine v_bipush (pc := 295) (v := 7) dL_isRefused_295 (by decide) ?_
  refine v_iload (pc := 297) dL_isRefused_297 rfl ?_
  refine v_iload (pc := 299) dL_isRefused_299 rfl ?_
  refine v_iconst (pc := 301) (v := 0) dL_isRefused_301 (by decide) ?_
  refine v_iconst (pc := 302) (v := 0) dL_isRefused_302 (by decide) ?_
  refine vqN (pc := 303) (u := 400 + 1 + 1 + 1 + 1 + 1 + 1 + 1 + 1 + 1) (j := 1) (U := 1200) (As := [.ref (X.1 0 0), .int _, .int _, .int _, .int _, .int _]) hNC dL_isRefused_303 cw_L_146 sm_yL_no (nw_bears _ _ 0 0 hW hI hq (by unfold kBe; exact if_neg (fun h => hpan h.1))) rfl rfl (Nat.le_of_ble_eq_true rfl) ⟨Nat.le_of_ble_eq_true rfl, Nat.le_of_ble_eq_true rfl⟩ ⟨by decide, by decide⟩ ⟨rfl, rfl⟩ (by omega) (fun v G hp => ?_)
  obtain ⟨rfl, hW⟩ := hp
  refine v_if_eq (pc := 306) (tgt := 841) dL_isRefused_306 (by decide) (fun c306 => absurd c306 (by decide)) (fun c306 => ?_)
  refine v_aload_n (pc := 309) dL_isRefused_309 rfl rfl ?_
  refine v_bipush (pc := 310) (v := 8) dL_isRefused_310 (by decide) ?_
  refine v_iload (pc := 312) dL_isRefused_312 rfl ?_
  refine v_iload (pc := 314) dL_isRefused_314 rfl ?_
  refine v_iconst (pc := 316) (v := 0) dL_isRefused_316 (by decide) ?_
  refine v_iconst (pc := 317) (v := 0) dL_isRefused_317 (by decide) ?_
  refine vqN (pc := 318) (u := 400 + 1 + 1 + 1 + 1 + 1 + 1 + 1 + 1 + 1 + 1) (j := 1) (U := 1200) (As := [.ref (X.1 0 0), .int _, .int _, .int _, .int _, .int _]) hNC dL_isRefused_318 cw_L_146 sm_yL_no (nw_bearsAnew _ _ 0 0 hW hI hq (by unfold kBe; exact if_neg (fun h => hpan h.1))) rfl rfl (Nat.le_of_ble_eq_true rfl) ⟨Nat.le_of_ble_eq_true rfl, Nat.le_of_ble_eq_true rfl⟩ ⟨by decide, by decide⟩ ⟨rfl, rfl⟩ (by omega) (fun v G hp => ?_)
  obtain ⟨rfl, hW⟩ := hp
  refine v_if_eq (pc := 321) (tgt := 841) dL_isRefused_321 (by decide) (fun c321 => absurd c321 (by decide)) (fun c321 => ?_)
  refine v_aload_n (pc := 324) dL_isRefused_324 rfl rfl ?_
  refine v_bipush (pc := 325) (v := 9) dL_isRefused_325 (by decide) ?_
  refine v_iload (pc := 327) dL_isRefused_327 rfl ?_
  refine v_ldc (pc := 329) dL_isRefused_329 k_L_149 ?_
  refine v_iconst (pc := 331) (v := 0) dL_isRefused_331 (by decide) ?_
  refine v_iconst (pc := 332) (v := 0) dL_isRefused_332 (by decide) ?_
  refine vqN (pc := 333) (u := 400 + 1 + 1 + 1 + 1 + 1 + 1 + 1 + 1 + 1 + 1 + 1) (j := 1) (U := 1200) (As := [.ref (X.1 0 0), .int _, .int _, .int _, .int _, .int _]) hNC dL_isRefused_333 cw_L_146 sm_yL_no (nw_knot0 _ 99999 0 hW hI hq (by unfold kKnot; exact if_neg hkn)) rfl rfl (Nat.le_of_ble_eq_true rfl) ⟨Nat.le_of_ble_eq_true rfl, Nat.le_of_ble_eq_true rfl⟩ ⟨by decide, by decide⟩ ⟨rfl, rfl⟩ (by omega) (fun v G hp => ?_)
  obtain ⟨rfl, hW⟩ := hp
  refine v_if_eq (pc := 336) (tgt := 841) dL_isRefused_336 (by decide) (fun c336 => absurd c336 (by decide)) (fun c336 => ?_)
  refine v_aload_n (pc := 339) dL_isRefused_339 rfl rfl ?_
  refine v_bipush (pc := 340) (v := 9) dL_isRefused_340 (by decide) ?_
  refine v_iload_n (pc := 342) dL_isRefused_342 rfl rfl ?_
  refine v_bipush (pc := 343) (v := 36) dL_isRefused_343 (by decide) ?_
  refine v_nrem (pc := 345) xx 36 dL_isRefused_345 (by omega) (by decide) rfl rfl ?_
  refine v_iload_n (pc := 346) dL_isRefused_346 rfl rfl ?_
  refine v_if_eq (pc := 347) (tgt := 361) dL_isRefused_347 (by decide) (fun c347 => absurd c347 (by decide)) (fun c347 => ?_)
  refine v_sipush (pc := 350) (v := (-10001)) dL_isRefused_350 (by decide) ?_
  refine v_iload_n (pc := 353) dL_isRefused_353 rfl rfl ?_
  refine v_bipush (pc := 354) (v := 30) dL_isRefused_354 (by decide) ?_
  refine v_nrem (pc := 356) xx 30 dL_isRefused_356 (by omega) (by decide) rfl rfl ?_
  refine v_isub (pc := 357) dL_isRefused_357 ?_
  refine v_goto (pc := 358) (tgt := 364) dL_isRefused_358 (by decide) ?_
  refine v_iconst (pc := 364) (v := 0) dL_isRefused_364 (by decide) ?_
  refine v_iconst (pc := 365) (v := 0) dL_isRefused_365 (by decide) ?_
  refine vqN (pc := 366) (u := 400 + 1 + 1 + 1 + 1 + 1 + 1 + 1 + 1 + 1 + 1 + 1 + 1) (j := 1) (U := 1200) (As := [.ref (X.1 0 0), .int _, .int _, .int _, .int _, .int _]) hNC dL_isRefused_366 cw_L_142 sm_yL_off (ow_knot0 _ _ 0 hW hI hq (by unfold kKnot; rw [if_pos ((btw_lit (M := 35) (N := 35) rfl).mpr ⟨xx % 36, by omega, rfl⟩), if_neg (nb_lo (k := -10001 - ((xx % 30 : Nat) : Int)) (sub_ti (k := -10001) rfl (by omega) (by decide)) (l := -10000) rfl (by omega))])) rfl rfl (Nat.le_of_ble_eq_true rfl) ⟨Nat.le_of_ble_eq_true rfl, Nat.le_of_ble_eq_true rfl⟩ ⟨by decide, by decide⟩ ⟨rfl, rfl⟩ (by omega) (fun v G hp => ?_)
  obtain ⟨rfl, hW⟩ := hp
  refine v_if_eq (pc := 369) (tgt := 841) dL_isRefused_369 (by decide) (fun c369 => absurd c369 (by decide)) (fun c369 => ?_)
  refine v_aload_n (pc := 372) dL_isRefused_372 rfl rfl ?_
  refine v_bipush (pc := 373) (v := 10) dL_isRefused_373 (by decide) ?_
  refine v_iload (pc := 375) dL_isRefused_375 rfl ?_
  refine v_iconst (pc := 377) (v := 0) dL_isRefused_377 (by decide) ?_
  refine v_iconst (pc := 378) (v := 0) dL_isRefused_378 (by decide) ?_
  refine v_iconst (pc := 379) (v := 0) dL_isRefused_379 (by decide) ?_
  refine vqN (pc := 380) (u := 400 + 1 + 1 + 1 + 1 + 1 + 1 + 1 + 1 + 1 + 1 + 1 + 1 + 1) (j := 1) (U := 1200) (As := [.ref (X.1 0 0), .int _, .int _, .int _, .int _, .int _]) hNC dL_isRefused_380 cw_L_142 sm_yL_off (ow_load _ 0 0 0 hW hI hq (by unfold kLoad; exact if_neg hhun)) rfl rfl (Nat.le_of_ble_eq_true rfl) ⟨Nat.le_of_ble_eq_true rfl, Nat.le_of_ble_eq_true rfl⟩ ⟨by decide, by decide⟩ ⟨rfl, rfl⟩ (by omega) (fun v G hp => ?_)
  obtain ⟨rfl, hW⟩ := hp
  refine v_if_eq (pc := 383) (tgt := 841) dL_isRefused_383 (by decide) (fun c383 => absurd c383 (by decide)) (fun c383 => ?_)
  refine v_aload_n (pc := 386) dL_isRefused_386 rfl rfl ?_
  refine v_bipush (pc := 387) (v := 11) dL_isRefused_387 (by decide) ?_
  refine v_iload_n (pc := 389) dL_isRefused_389 rfl rfl ?_
  refine v_if_eq (pc := 390) (tgt := 402) dL_isRefused_390 (by decide) (fun c390 => absurd c390 (by decide)) (fun c390 => ?_)
  refine v_iconst (pc := 393) (v := 0) dL_isRefused_393 (by decide) ?_
  refine v_iload_n (pc := 394) dL_isRefused_394 rfl rfl ?_
  refine v_bipush (pc := 395) (v := 30) dL_isRefused_395 (by decide) ?_
  refine v_nrem (pc := 397) xx 30 dL_isRefused_397 (by omega) (by decide) rfl rfl ?_
  refine v_isub (pc := 398) dL_isRefused_398 ?_
  refine v_goto (pc := 399) (tgt := 404) dL_isRefused_399 (by decide) ?_
  refine v_iconst (pc := 404) (v := 0) dL_isRefused_404 (by decide) ?_
  refine v_iconst (pc := 405) (v := 0) dL_isRefused_405 (by decide) ?_
  refine v_iconst (pc := 406) (v := 0) dL_isRefused_406 (by decide) ?_
  refine vqN (pc := 407) (u := 400 + 1 + 1 + 1 + 1 + 1 + 1 + 1 + 1 + 1 + 1 + 1 + 1 + 1 + 1) (j := 1) (U := 1200) (As := [.ref (X.1 0 0), .int _, .int _, .int _, .int _, .int _]) hNC dL_isRefused_407 cw_L_142 sm_yL_off (ow_rest _ 0 0 0 hW hI hq (by unfold kRest; exact if_neg (nb_lo (k := 0 - ((xx % 30 : Nat) : Int)) (sub_ti (k := 0) rfl (by omega) (by decide)) (l := 1) rfl (by omega)))) rfl rfl (Nat.le_of_ble_eq_true rfl) ⟨Nat.le_of_ble_eq_true rfl, Nat.le_of_ble_eq_true rfl⟩ ⟨by decide, by decide⟩ ⟨rfl, rfl⟩ (by omega) (fun v G hp => ?_)
  obtain ⟨rfl, hW⟩ := hp
  refine v_if_eq (pc := 410) (tgt := 841) dL_isRefused_410 (by decide) (fun c410 => absurd c410 (by decide)) (fun c410 => ?_)
  refine v_aload_n (pc := 413) dL_isRefused_413 rfl rfl ?_
  refine v_bipush (pc := 414) (v := 12) dL_isRefused_414 (by decide) ?_
  refine v_iload (pc := 416) dL_isRefused_416 rfl ?_
  refine v_iconst (pc := 418) (v := 0) dL_isRefused_418 (by decide) ?_
  refine v_iconst (pc := 419) (v := 0) dL_isRefused_419 (by decide) ?_
  refine v_iconst (pc := 420) (v := 0) dL_isRefused_420 (by decide) ?_
  refine vqN (pc := 421) (u := 400 + 1 + 1 + 1 + 1 + 1 + 1 + 1 + 1 + 1 + 1 + 1 + 1 + 1 + 1 + 1) (j := 1) (U := 1200) (As := [.ref (X.1 0 0), .int _, .int _, .int _, .int _, .int _]) hNC dL_isRefused_421 cw_L_146 sm_yL_no (nw_height _ 0 0 0 hW hI hq (by unfold kHt; exact if_neg hkn)) rfl rfl (Nat.le_of_ble_eq_true rfl) ⟨Nat.le_of_ble_eq_true rfl, Nat.le_of_ble_eq_true rfl⟩ ⟨by decide, by decide⟩ ⟨rfl, rfl⟩ (by omega) (fun v G hp => ?_)
  obtain ⟨rfl, hW⟩ := hp
  refine v_if_eq (pc := 424) (tgt := 841) dL_isRefused_424 (by decide) (fun c424 => absurd c424 (by decide)) (fun c424 => ?_)
  refine v_aload_n (pc := 427) dL_isRefused_427 rfl rfl ?_
  refine v_bipush (pc := 428) (v := 13) dL_isRefused_428 (by decide) ?_
  refine v_iload_n (pc := 430) dL_isRefused_430 rfl rfl ?_
  refine v_if_eq (pc := 431) (tgt := 438) dL_isRefused_431 (by decide) (fun c431 => absurd c431 (by decide)) (fun c431 => ?_)
  refine v_iconst (pc := 434) (v := (-1)) dL_isRefused_434 (by decide) ?_
  refine v_goto (pc := 435) (tgt := 446) dL_isRefused_435 (by decide) ?_
  refine v_iconst (pc := 446) (v := 0) dL_isRefused_446 (by decide) ?_
  refine v_iconst (pc := 447) (v := 0) dL_isRefused_447 (by decide) ?_
  refine v_iconst (pc := 448) (v := 0) dL_isRefused_448 (by decide) ?_
  refine vqN (pc := 449) (u := 400 + 1 + 1 + 1 + 1 + 1 + 1 + 1 + 1 + 1 + 1 + 1 + 1 + 1 + 1 + 1 + 1) (j := 1) (U := 1200) (As := [.ref (X.1 0 0), .int _, .int _, .int _, .int _, .int _]) hNC dL_isRefused_449 cw_L_146 sm_yL_no (nw_pulled _ 0 0 0 hW hI hq (by unfold kPul; exact if_neg (nb_lo (k := -1) rfl (l := 0) rfl (by decide)))) rfl rfl (Nat.le_of_ble_eq_true rfl) ⟨Nat.le_of_ble_eq_true rfl, Nat.le_of_ble_eq_true rfl⟩ ⟨by decide, by decide⟩ ⟨rfl, rfl⟩ (by omega) (fun v G hp => ?_)
  obtain ⟨rfl, hW⟩ := hp
  refine v_if_eq (pc := 452) (tgt := 841) dL_isRefused_452 (by decide) (fun c452 => absurd c452 (by decide)) (fun c452 => ?_)
  refine v_aload_n (pc := 455) dL_isRefused_455 rfl rfl ?_
  refine v_bipush (pc := 456) (v := 14) dL_isRefused_456 (by decide) ?_
  refine v_iload (pc := 458) dL_isRefused_458 rfl ?_
  refine v_iconst (pc := 460) (v := 5) dL_isRefused_460 (by decide) ?_
  refine v_iconst (pc := 461) (v := 1) dL_isRefused_461 (by decide) ?_
  refine v_iconst (pc := 462) (v := 0) dL_isRefused_462 (by decide) ?_
  refine vqN (pc := 463) (u := 400 + 1 + 1 + 1 + 1 + 1 + 1 + 1 + 1 + 1 + 1 + 1 + 1 + 1 + 1 + 1 + 1 + 1) (j := 1) (U := 1200) (As := [.ref (X.1 0 0), .int _, .int _, .int _, .int _, .int _]) hNC dL_isRefused_463 cw_L_142 sm_yL_off (ow_trim _ 5 1 0 hW hI hq (by unfold kTrim; exact if_neg (fun h => hhun h.1))) rfl rfl (Nat.le_of_ble_eq_true rfl) ⟨Nat.le_of_ble_eq_true rfl, Nat.le_of_ble_eq_true rfl⟩ ⟨by decide, by decide⟩ ⟨rfl, rfl⟩ (by omega) (fun v G hp => ?_)
  obtain ⟨rfl, hW⟩ := hp
  refine v_if_eq (pc := 466) (tgt := 841) dL_isRefused_466 (by decide) (fun c466 => absurd c466 (by decide)) (fun c466 => ?_)
  refine v_aload_n (pc := 469) dL_isRefused_469 rfl rfl ?_
  refine v_bipush (pc := 470) (v := 14) dL_isRefused_470 (by decide) ?_
  refine v_iconst (pc := 472) (v := 5) dL_isRefused_472 (by decide) ?_
  refine v_iload (pc := 473) dL_isRefused_473 rfl ?_
  refine v_iconst (pc := 475) (v := 1) dL_isRefused_475 (by decide) ?_
  refine v_iconst (pc := 476) (v := 0) dL_isRefused_476 (by decide) ?_
  refine vqN (pc := 477) (u := 400 + 1 + 1 + 1 + 1 + 1 + 1 + 1 + 1 + 1 + 1 + 1 + 1 + 1 + 1 + 1 + 1 + 1 + 1) (j := 1) (U := 1200) (As := [.ref (X.1 0 0), .int _, .int _, .int _, .int _, .int _]) hNC dL_isRefused_477 cw_L_142 sm_yL_off (ow_trim 5 _ 1 0 hW hI hq (by unfold kTrim; exact if_neg (fun h => hhun h.2.1))) rfl rfl (Nat.le_of_ble_eq_true rfl) ⟨Nat.le_of_ble_eq_true rfl, Nat.le_of_ble_eq_true rfl⟩ ⟨by decide, by decide⟩ ⟨rfl, rfl⟩ (by omega) (fun v G hp => ?_)
  obtain ⟨rfl, hW⟩ := hp
  refine v_if_eq (pc := 480) (tgt := 841) dL_isRefused_480 (by decide) (fun c480 => absurd c480 (by decide)) (fun c480 => ?_)
  refine v_aload_n (pc := 483) dL_isRefused_483 rfl rfl ?_
  refine v_bipush (pc := 484) (v := 14) dL_isRefused_484 (by decide) ?_
  refine v_iconst (pc := 486) (v := 5) dL_isRefused_486 (by decide) ?_
  refine v_iconst (pc := 487) (v := 5) dL_isRefused_487 (by decide) ?_
  refine v_iload_n (pc := 488) dL_isRefused_488 rfl rfl ?_
  refine v_if_eq (pc := 489) (tgt := 501) dL_isRefused_489 (by decide) (fun c489 => absurd c489 (by decide)) (fun c489 => ?_)
  refine v_iconst (pc := 492) (v := (-1)) dL_isRefused_492 (by decide) ?_
  refine v_iload_n (pc := 493) dL_isRefused_493 rfl rfl ?_
  refine v_bipush (pc := 494) (v := 30) dL_isRefused_494 (by decide) ?_
  refine v_nrem (pc := 496) xx 30 dL_isRefused_496 (by omega) (by decide) rfl rfl ?_
  refine v_isub (pc := 497) dL_isRefused_497 ?_
  refine v_goto (pc := 498) (tgt := 502) dL_isRefused_498 (by decide) ?_
  refine v_iconst (pc := 502) (v := 0) dL_isRefused_502 (by decide) ?_
  refine vqN (pc := 503) (u := 400 + 1 + 1 + 1 + 1 + 1 + 1 + 1 + 1 + 1 + 1 + 1 + 1 + 1 + 1 + 1 + 1 + 1 + 1 + 1) (j := 1) (U := 1200) (As := [.ref (X.1 0 0), .int _, .int _, .int _, .int _, .int _]) hNC dL_isRefused_503 cw_L_142 sm_yL_off (ow_trim 5 5 _ 0 hW hI hq (by unfold kTrim; exact if_neg (fun h => (nb_lo (k := -1 - ((xx % 30 : Nat) : Int)) (sub_ti (k := -1) rfl (by omega) (by decide)) (l := 0) rfl (by omega)) h.2.2))) rfl rfl (Nat.le_of_ble_eq_true rfl) ⟨Nat.le_of_ble_eq_true rfl, Nat.le_of_ble_eq_true rfl⟩ ⟨by decide, by decide⟩ ⟨rfl, rfl⟩ (by omega) (fun v G hp => ?_)
  obtain ⟨rfl, hW⟩ := hp
  refine v_if_eq (pc := 506) (tgt := 841) dL_isRefused_506 (by decide) (fun c506 => absurd c506 (by decide)) (fun c506 => ?_)
  refine v_aload_n (pc := 509) dL_isRefused_509 rfl rfl ?_
  refine v_bipush (pc := 510) (v := 15) dL_isRefused_510 (by decide) ?_
  refine v_iload (pc := 512) dL_isRefused_512 rfl ?_
  refine v_iconst (pc := 514) (v := 0) dL_isRefused_514 (by decide) ?_
  refine v_iconst (pc := 515) (v := 0) dL_isRefused_515 (by decide) ?_
  refine v_iconst (pc := 516) (v := 0) dL_isRefused_516 (by decide) ?_
  refine vqN (pc := 517) (u := 400 + 1 + 1 + 1 + 1 + 1 + 1 + 1 + 1 + 1 + 1 + 1 + 1 + 1 + 1 + 1 + 1 + 1 + 1 + 1 + 1) (j := 1) (U := 1200) (As := [.ref (X.1 0 0), .int _, .int _, .int _, .int _, .int _]) hNC dL_isRefused_517 cw_L_142 sm_yL_off (ow_power _ 0 0 0 e1 e2 e3 hh ht9 hr hW hI hq (by unfold kPow; exact if_neg hhun)) rfl rfl (Nat.le_of_ble_eq_true rfl) ⟨Nat.le_of_ble_eq_true rfl, Nat.le_of_ble_eq_true rfl⟩ ⟨by decide, by decide⟩ ⟨rfl, rfl⟩ (by omega) (fun v G hp => ?_)
  obtain ⟨rfl, hW⟩ := hp
  refine v_if_eq (pc := 520) (tgt := 841) dL_isRefused_520 (by decide) (fun c520 => absurd c520 (by decide)) (fun c520 => ?_)
  refine v_aload_n (pc := 523) dL_isRefused_523 rfl rfl ?_
  refine v_bipush (pc := 524) (v := 16) dL_isRefused_524 (by decide) ?_
  refine v_iload (pc := 526) dL_isRefused_526 rfl ?_
  refine v_iconst (pc := 528) (v := 5) dL_isRefused_528 (by decide) ?_
  refine v_iconst (pc := 529) (v := 0) dL_isRefused_529 (by decide) ?_
  refine v_iconst (pc := 530) (v := 0) dL_isRefused_530 (by decide) ?_
  refine vqN (pc := 531) (u := 400 + 1 + 1 + 1 + 1 + 1 + 1 + 1 + 1 + 1 + 1 + 1 + 1 + 1 + 1 + 1 + 1 + 1 + 1 + 1 + 1 + 1) (j := 1) (U := 1200) (As := [.ref (X.1 0 0), .int _, .int _, .int _, .int _, .int _]) hNC dL_isRefused_531 cw_L_142 sm_yL_off (ow_halyard _ 5 0 0 e2 e3 ht9 hr hW hI hq (by unfold kHal; exact if_neg (fun h => hhun h.1))) rfl rfl (Nat.le_of_ble_eq_true rfl) ⟨Nat.le_of_ble_eq_true rfl, Nat.le_of_ble_eq_true rfl⟩ ⟨by decide, by decide⟩ ⟨rfl, rfl⟩ (by omega) (fun v G hp => ?_)
  obtain ⟨rfl, hW⟩ := hp
  refine v_if_eq (pc := 534) (tgt := 841) dL_isRefused_534 (by decide) (fun c534 => absurd c534 (by decide)) (fun c534 => ?_)
  refine v_aload_n (pc := 537) dL_isRefused_537 rfl rfl ?_
  refine v_bipush (pc := 538) (v := 16) dL_isRefused_538 (by decide) ?_
  refine v_iconst (pc := 540) (v := 5) dL_isRefused_540 (by decide) ?_
  refine v_iload_n (pc := 541) dL_isRefused_541 rfl rfl ?_
  refine v_if_eq (pc := 542) (tgt := 549) dL_isRefused_542 (by decide) (fun c542 => absurd c542 (by decide)) (fun c542 => ?_)
  refine v_iconst (pc := 545) (v := (-1)) dL_isRefused_545 (by decide) ?_
  refine v_goto (pc := 546) (tgt := 556) dL_isRefused_546 (by decide) ?_
  refine v_iconst (pc := 556) (v := 0) dL_isRefused_556 (by decide) ?_
  refine v_iconst (pc := 557) (v := 0) dL_isRefused_557 (by decide) ?_
  refine vqN (pc := 558) (u := 400 + 1 + 1 + 1 + 1 + 1 + 1 + 1 + 1 + 1 + 1 + 1 + 1 + 1 + 1 + 1 + 1 + 1 + 1 + 1 + 1 + 1 + 1) (j := 1) (U := 1200) (As := [.ref (X.1 0 0), .int _, .int _, .int _, .int _, .int _]) hNC dL_isRefused_558 cw_L_142 sm_yL_off (ow_halyard 5 _ 0 0 e2 e3 ht9 hr hW hI hq (by unfold kHal; exact if_neg (by decide))) rfl rfl (Nat.le_of_ble_eq_true rfl) ⟨Nat.le_of_ble_eq_true rfl, Nat.le_of_ble_eq_true rfl⟩ ⟨by decide, by decide⟩ ⟨rfl, rfl⟩ (by omega) (fun v G hp => ?_)
  obtain ⟨rfl, hW⟩ := hp
  refine v_if_eq (pc := 561) (tgt := 841) dL_isRefused_561 (by decide) (fun c561 => absurd c561 (by decide)) (fun c561 => ?_)
  refine v_aload_n (pc := 564) dL_isRefused_564 rfl rfl ?_
  refine v_bipush (pc := 565) (v := 17) dL_isRefused_565 (by decide) ?_
  refine v_iload_n (pc := 567) dL_isRefused_567 rfl rfl ?_
  refine v_if_eq (pc := 568) (tgt := 580) dL_isRefused_568 (by decide) (fun c568 => absurd c568 (by decide)) (fun c568 => ?_)
  refine v_iconst (pc := 571) (v := 0) dL_isRefused_571 (by decide) ?_
  refine v_iload_n (pc := 572) dL_isRefused_572 rfl rfl ?_
  refine v_bipush (pc := 573) (v := 30) dL_isRefused_573 (by decide) ?_
  refine v_nrem (pc := 575) xx 30 dL_isRefused_575 (by omega) (by decide) rfl rfl ?_
  refine v_isub (pc := 576) dL_isRefused_576 ?_
  refine v_goto (pc := 577) (tgt := 583) dL_isRefused_577 (by decide) ?_
  refine v_iconst (pc := 583) (v := 0) dL_isRefused_583 (by decide) ?_
  refine v_iconst (pc := 584) (v := 0) dL_isRefused_584 (by decide) ?_
  refine v_iconst (pc := 585) (v := 0) dL_isRefused_585 (by decide) ?_
  refine vqN (pc := 586) (u := 400 + 1 + 1 + 1 + 1 + 1 + 1 + 1 + 1 + 1 + 1 + 1 + 1 + 1 + 1 + 1 + 1 + 1 + 1 + 1 + 1 + 1 + 1 + 1) (j := 1) (U := 1200) (As := [.ref (X.1 0 0), .int _, .int _, .int _, .int _, .int _]) hNC dL_isRefused_586 cw_L_142 sm_yL_off (ow_pass _ 0 0 0 hW hI hq (by unfold kPass; exact if_neg (nb_lo (k := 0 - ((xx % 30 : Nat) : Int)) (sub_ti (k := 0) rfl (by omega) (by decide)) (l := 1) rfl (by omega)))) rfl rfl (Nat.le_of_ble_eq_true rfl) ⟨Nat.le_of_ble_eq_true rfl, Nat.le_of_ble_eq_true rfl⟩ ⟨by decide, by decide⟩ ⟨rfl, rfl⟩ (by omega) (fun v G hp => ?_)
  obtain ⟨rfl, hW⟩ := hp
  refine v_if_eq (pc := 589) (tgt := 841) dL_isRefused_589 (by decide) (fun c589 => absurd c589 (by decide)) (fun c589 => ?_)
  refine v_aload_n (pc := 592) dL_isRefused_592 rfl rfl ?_
  refine v_bipush (pc := 593) (v := 18) dL_isRefused_593 (by decide) ?_
  refine v_iload (pc := 595) dL_isRefused_595 rfl ?_
  refine v_iconst (pc := 597) (v := 0) dL_isRefused_597 (by decide) ?_
  refine v_iconst (pc := 598) (v := 0) dL_isRefused_598 (by decide) ?_
  refine v_iconst (pc := 599) (v := 0) dL_isRefused_599 (by decide) ?_
  refine vqN (pc := 600) (u := 400 + 1 + 1 + 1 + 1 + 1 + 1 + 1 + 1 + 1 + 1 + 1 + 1 + 1 + 1 + 1 + 1 + 1 + 1 + 1 + 1 + 1 + 1 + 1 + 1) (j := 1) (U := 1200) (As := [.ref (X.1 0 0), .int _, .int _, .int _, .int _, .int _]) hNC dL_isRefused_600 cw_L_146 sm_yL_no (nw_canopy _ 0 0 0 hW hI hq (by unfold kCan; exact if_neg hlot)) rfl rfl (Nat.le_of_ble_eq_true rfl) ⟨Nat.le_of_ble_eq_true rfl, Nat.le_of_ble_eq_true rfl⟩ ⟨by decide, by decide⟩ ⟨rfl, rfl⟩ (by omega) (fun v G hp => ?_)
  obtain ⟨rfl, hW⟩ := hp
  refine v_if_eq (pc := 603) (tgt := 841) dL_isRefused_603 (by decide) (fun c603 => absurd c603 (by decide)) (fun c603 => ?_)
  refine v_aload_n (pc := 606) dL_isRefused_606 rfl rfl ?_
  refine v_bipush (pc := 607) (v := 19) dL_isRefused_607 (by decide) ?_
  refine v_iload (pc := 609) dL_isRefused_609 rfl ?_
  refine v_sipush (pc := 611) (v := 999) dL_isRefused_611 (by decide) ?_
  refine v_iconst (pc := 614) (v := 0) dL_isRefused_614 (by decide) ?_
  refine v_iconst (pc := 615) (v := 0) dL_isRefused_615 (by decide) ?_
  refine vqN (pc := 616) (u := 400 + 1 + 1 + 1 + 1 + 1 + 1 + 1 + 1 + 1 + 1 + 1 + 1 + 1 + 1 + 1 + 1 + 1 + 1 + 1 + 1 + 1 + 1 + 1 + 1 + 1) (j := 1) (U := 1200) (As := [.ref (X.1 0 0), .int _, .int _, .int _, .int _, .int _]) hNC dL_isRefused_616 cw_L_146 sm_yL_no (nw_part _ 999 0 0 hW hI hq (by unfold kPart; exact if_neg hcan)) rfl rfl (Nat.le_of_ble_eq_true rfl) ⟨Nat.le_of_ble_eq_true rfl, Nat.le_of_ble_eq_true rfl⟩ ⟨by decide, by decide⟩ ⟨rfl, rfl⟩ (by omega) (fun v G hp => ?_)
  obtain ⟨rfl, hW⟩ := hp
  refine v_if_eq (pc := 619) (tgt := 841) dL_isRefused_619 (by decide) (fun c619 => absurd c619 (by decide)) (fun c619 => ?_)
  refine v_aload_n (pc := 622) dL_isRefused_622 rfl rfl ?_
  refine v_bipush (pc := 623) (v := 20) dL_isRefused_623 (by decide) ?_
  refine v_iload (pc := 625) dL_isRefused_625 rfl ?_
  refine v_iconst (pc := 627) (v := 0) dL_isRefused_627 (by decide) ?_
  refine v_iconst (pc := 628) (v := 0) dL_isRefused_628 (by decide) ?_
  refine v_iconst (pc := 629) (v := 0) dL_isRefused_629 (by decide) ?_
  refine vqN (pc := 630) (u := 400 + 1 + 1 + 1 + 1 + 1 + 1 + 1 + 1 + 1 + 1 + 1 + 1 + 1 + 1 + 1 + 1 + 1 + 1 + 1 + 1 + 1 + 1 + 1 + 1 + 1 + 1) (j := 1) (U := 1200) (As := [.ref (X.1 0 0), .int _, .int _, .int _, .int _, .int _]) hNC dL_isRefused_630 cw_L_146 sm_yL_no (nw_opens _ 0 0 0 hW hI hq (by unfold kOp; exact if_neg hcan)) rfl rfl (Nat.le_of_ble_eq_true rfl) ⟨Nat.le_of_ble_eq_true rfl, Nat.le_of_ble_eq_true rfl⟩ ⟨by decide, by decide⟩ ⟨rfl, rfl⟩ (by omega) (fun v G hp => ?_)
  obtain ⟨rfl, hW⟩ := hp
  refine v_if_eq (pc := 633) (tgt := 841) dL_isRefused_633 (by decide) (fun c633 => absurd c633 (by decide)) (fun c633 => ?_)
  refine v_aload_n (pc := 636) dL_isRefused_636 rfl rfl ?_
  refine v_bipush (pc := 637) (v := 21) dL_isRefused_637 (by decide) ?_
  refine v_iload (pc := 639) dL_isRefused_639 rfl ?_
  refine v_bipush (pc := 641) (v := 9) dL_isRefused_641 (by decide) ?_
  refine v_iconst (pc := 643) (v := 0) dL_isRefused_643 (by decide) ?_
  refine v_iconst (pc := 644) (v := 0) dL_isRefused_644 (by decide) ?_
  refine vqN (pc := 645) (u := 400 + 1 + 1 + 1 + 1 + 1 + 1 + 1 + 1 + 1 + 1 + 1 + 1 + 1 + 1 + 1 + 1 + 1 + 1 + 1 + 1 + 1 + 1 + 1 + 1 + 1 + 1 + 1) (j := 1) (U := 1200) (As := [.ref (X.1 0 0), .int _, .int _, .int _, .int _, .int _]) hNC dL_isRefused_645 cw_L_146 sm_yL_no (nw_seal _ 9 0 0 hW hI hq (by unfold kSeal; exact if_neg (fun h => hcan h.1))) rfl rfl (Nat.le_of_ble_eq_true rfl) ⟨Nat.le_of_ble_eq_true rfl, Nat.le_of_ble_eq_true rfl⟩ ⟨by decide, by decide⟩ ⟨rfl, rfl⟩ (by omega) (fun v G hp => ?_)
  obtain ⟨rfl, hW⟩ := hp
  refine v_if_eq (pc := 648) (tgt := 841) dL_isRefused_648 (by decide) (fun c648 => absurd c648 (by decide)) (fun c648 => ?_)
  refine v_aload_n (pc := 651) dL_isRefused_651 rfl rfl ?_
  refine v_bipush (pc := 652) (v := 22) dL_isRefused_652 (by decide) ?_
  refine v_iload (pc := 654) dL_isRefused_654 rfl ?_
  refine v_iconst (pc := 656) (v := 0) dL_isRefused_656 (by decide) ?_
  refine v_iconst (pc := 657) (v := 0) dL_isRefused_657 (by decide) ?_
  refine v_iconst (pc := 658) (v := 0) dL_isRefused_658 (by decide) ?_
  refine vqN (pc := 659) (u := 400 + 1 + 1 + 1 + 1 + 1 + 1 + 1 + 1 + 1 + 1 + 1 + 1 + 1 + 1 + 1 + 1 + 1 + 1 + 1 + 1 + 1 + 1 + 1 + 1 + 1 + 1 + 1 + 1) (j := 1) (U := 1200) (As := [.ref (X.1 0 0), .int _, .int _, .int _, .int _, .int _]) hNC dL_isRefused_659 cw_L_146 sm_yL_no (nw_use _ 0 0 0 hW hI hq (by unfold kUse; exact if_neg hcan)) rfl rfl (Nat.le_of_ble_eq_true rfl) ⟨Nat.le_of_ble_eq_true rfl, Nat.le_of_ble_eq_true rfl⟩ ⟨by decide, by decide⟩ ⟨rfl, rfl⟩ (by omega) (fun v G hp => ?_)
  obtain ⟨rfl, hW⟩ := hp
  refine v_if_eq (pc := 662) (tgt := 841) dL_isRefused_662 (by decide) (fun c662 => absurd c662 (by decide)) (fun c662 => ?_)
  refine v_aload_n (pc := 665) dL_isRefused_665 rfl rfl ?_
  refine v_bipush (pc := 666) (v := 23) dL_isRefused_666 (by decide) ?_
  refine v_iload (pc := 668) dL_isRefused_668 rfl ?_
  refine v_iconst (pc := 670) (v := 0) dL_isRefused_670 (by decide) ?_
  refine v_iconst (pc := 671) (v := 0) dL_isRefused_671 (by decide) ?_
  refine v_iconst (pc := 672) (v := 0) dL_isRefused_672 (by decide) ?_
  refine vqN (pc := 673) (u := 400 + 1 + 1 + 1 + 1 + 1 + 1 + 1 + 1 + 1 + 1 + 1 + 1 + 1 + 1 + 1 + 1 + 1 + 1 + 1 + 1 + 1 + 1 + 1 + 1 + 1 + 1 + 1 + 1 + 1) (j := 1) (U := 1200) (As := [.ref (X.1 0 0), .int _, .int _, .int _, .int _, .int _]) hNC dL_isRefused_673 cw_L_146 sm_yL_no (nw_wet0 _ 0 0 hW hI hq (by unfold kWet; exact if_neg hcan)) rfl rfl (Nat.le_of_ble_eq_true rfl) ⟨Nat.le_of_ble_eq_true rfl, Nat.le_of_ble_eq_true rfl⟩ ⟨by decide, by decide⟩ ⟨rfl, rfl⟩ (by omega) (fun v G hp => ?_)
  obtain ⟨rfl, hW⟩ := hp
  refine v_if_eq (pc := 676) (tgt := 841) dL_isRefused_676 (by decide) (fun c676 => absurd c676 (by decide)) (fun c676 => ?_)
  refine v_aload_n (pc := 679) dL_isRefused_679 rfl rfl ?_
  refine v_bipush (pc := 680) (v := 24) dL_isRefused_680 (by decide) ?_
  refine v_iload (pc := 682) dL_isRefused_682 rfl ?_
  refine v_iconst (pc := 684) (v := 0) dL_isRefused_684 (by decide) ?_
  refine v_iconst (pc := 685) (v := 0) dL_isRefused_685 (by decide) ?_
  refine v_iconst (pc := 686) (v := 0) dL_isRefused_686 (by decide) ?_
  refine vqN (pc := 687) (u := 400 + 1 + 1 + 1 + 1 + 1 + 1 + 1 + 1 + 1 + 1 + 1 + 1 + 1 + 1 + 1 + 1 + 1 + 1 + 1 + 1 + 1 + 1 + 1 + 1 + 1 + 1 + 1 + 1 + 1 + 1) (j := 1) (U := 1200) (As := [.ref (X.1 0 0), .int _, .int _, .int _, .int _, .int _]) hNC dL_isRefused_687 cw_L_146 sm_yL_no (nw_find0 _ 0 0 hW hI hq (by unfold kFind; exact if_neg hlot)) rfl rfl (Nat.le_of_ble_eq_true rfl) ⟨Nat.le_of_ble_eq_true rfl, Nat.le_of_ble_eq_true rfl⟩ ⟨by decide, by decide⟩ ⟨rfl, rfl⟩ (by omega) (fun v G hp => ?_)
  obtain ⟨rfl, hW⟩ := hp
  refine v_if_eq (pc := 690) (tgt := 841) dL_isRefused_690 (by decide) (fun c690 => absurd c690 (by decide)) (fun c690 => ?_)
  refine v_aload_n (pc := 693) dL_isRefused_693 rfl rfl ?_
  refine v_bipush (pc := 694) (v := 25) dL_isRefused_694 (by decide) ?_
  refine v_iload (pc := 696) dL_isRefused_696 rfl ?_
  refine v_bipush (pc := 698) (v := 9) dL_isRefused_698 (by decide) ?_
  refine v_iconst (pc := 700) (v := 0) dL_isRefused_700 (by decide) ?_
  refine v_iconst (pc := 701) (v := 0) dL_isRefused_701 (by decide) ?_
  refine vqN (pc := 702) (u := 400 + 1 + 1 + 1 + 1 + 1 + 1 + 1 + 1 + 1 + 1 + 1 + 1 + 1 + 1 + 1 + 1 + 1 + 1 + 1 + 1 + 1 + 1 + 1 + 1 + 1 + 1 + 1 + 1 + 1 + 1 + 1) (j := 1) (U := 1200) (As := [.ref (X.1 0 0), .int _, .int _, .int _, .int _, .int _]) hNC dL_isRefused_702 cw_L_146 sm_yL_no (nw_ofCanopy _ 9 0 0 hW hI hq (by unfold kOf; exact if_neg hcan)) rfl rfl (Nat.le_of_ble_eq_true rfl) ⟨Nat.le_of_ble_eq_true rfl, Nat.le_of_ble_eq_true rfl⟩ ⟨by decide, by decide⟩ ⟨rfl, rfl⟩ (by omega) (fun v G hp => ?_)
  obtain ⟨rfl, hW⟩ := hp
  refine v_if_eq (pc := 705) (tgt := 841) dL_isRefused_705 (by decide) (fun c705 => absurd c705 (by decide)) (fun c705 => ?_)
  refine v_aload_n (pc := 708) dL_isRefused_708 rfl rfl ?_
  refine v_bipush (pc := 709) (v := 26) dL_isRefused_709 (by decide) ?_
  refine v_iload (pc := 711) dL_isRefused_711 rfl ?_
  refine v_iconst (pc := 713) (v := 0) dL_isRefused_713 (by decide) ?_
  refine v_iconst (pc := 714) (v := 0) dL_isRefused_714 (by decide) ?_
  refine v_iconst (pc := 715) (v := 0) dL_isRefused_715 (by decide) ?_
  refine vqN (pc := 716) (u := 400 + 1 + 1 + 1 + 1 + 1 + 1 + 1 + 1 + 1 + 1 + 1 + 1 + 1 + 1 + 1 + 1 + 1 + 1 + 1 + 1 + 1 + 1 + 1 + 1 + 1 + 1 + 1 + 1 + 1 + 1 + 1 + 1) (j := 1) (U := 1200) (As := [.ref (X.1 0 0), .int _, .int _, .int _, .int _, .int _]) hNC dL_isRefused_716 cw_L_146 sm_yL_no (nw_lifeAnew _ 0 0 0 hW hI hq (by unfold kOf; exact if_neg hcan)) rfl rfl (Nat.le_of_ble_eq_true rfl) ⟨Nat.le_of_ble_eq_true rfl, Nat.le_of_ble_eq_true rfl⟩ ⟨by decide, by decide⟩ ⟨rfl, rfl⟩ (by omega) (fun v G hp => ?_)
  obtain ⟨rfl, hW⟩ := hp
  refine v_if_eq (pc := 719) (tgt := 841) dL_isRefused_719 (by decide) (fun c719 => absurd c719 (by decide)) (fun c719 => ?_)
  refine v_aload_n (pc := 722) dL_isRefused_722 rfl rfl ?_
  refine v_iconst (pc := 723) (v := 5) dL_isRefused_723 (by decide) ?_
  refine v_iload_n (pc := 724) dL_isRefused_724 rfl rfl ?_
  refine v_if_eq (pc := 725) (tgt := 740) dL_isRefused_725 (by decide) (fun c725 => absurd c725 (by decide)) (fun c725 => ?_)
  refine v_ldcL (pc := 728) dL_isRefused_728 k_L_151 ?_
  refine v_iload_n (pc := 731) dL_isRefused_731 rfl rfl ?_
  refine v_bipush (pc := 732) (v := 30) dL_isRefused_732 (by decide) ?_
  refine v_nrem (pc := 734) xx 30 dL_isRefused_734 (by omega) (by decide) rfl rfl ?_
  refine v_i2l (pc := 735) dL_isRefused_735 ?_
  refine v_lsub (pc := 736) dL_isRefused_736 ?_
  refine v_goto (pc := 737) (tgt := 743) dL_isRefused_737 (by decide) ?_
  refine vqL (pc := 743) (u := 400 + 1 + 1 + 1 + 1 + 1 + 1 + 1 + 1 + 1 + 1 + 1 + 1 + 1 + 1 + 1 + 1 + 1 + 1 + 1 + 1 + 1 + 1 + 1 + 1 + 1 + 1 + 1 + 1 + 1 + 1 + 1 + 1 + 1) (j := 1) (U := 1200) (As := [.ref (X.1 0 0), .int _, .long _]) hNC dL_isRefused_743 ll_pegs.1 ll_pegs.2.1 wl_pegs ll_pegs.2.2.2 ll_pegs.2.2.1 (xIA_peg _ 5 hW hI hq (by decide) (by unfold kPeg; exact if_neg (fun h => l_lo (xx % 30) (by omega) h.1.1))) rfl rfl (Nat.le_of_ble_eq_true rfl) ⟨Nat.le_of_ble_eq_true rfl, Nat.le_of_ble_eq_true rfl⟩ ⟨by decide, by decide⟩ ⟨rfl, rfl⟩ (by omega) (fun v G hp => ?_)
  obtain ⟨rfl, hW⟩ := hp
  refine v_ldcL (pc := 746) dL_isRefused_746 k_L_109 ?_
  refine v_lcmp (pc := 749) dL_isRefused_749 ?_
  refine v_if_ne (pc := 750) (tgt := 841) dL_isRefused_750 (by decide) (fun c750 => absurd c750 (d_ne rfl)) (fun c750 => ?_)
  refine v_aload_n (pc := 753) dL_isRefused_753 rfl rfl ?_
  refine v_iload_n (pc := 754) dL_isRefused_754 rfl rfl ?_
  refine v_if_eq (pc := 755) (tgt := 762) dL_isRefused_755 (by decide) (fun c755 => absurd c755 (by decide)) (fun c755 => ?_)
  refine v_iconst (pc := 758) (v := 0) dL_isRefused_758 (by decide) ?_
  refine v_goto (pc := 759) (tgt := 769) dL_isRefused_759 (by decide) ?_
  refine v_ldcL (pc := 769) dL_isRefused_769 k_L_158 ?_
  refine vqL (pc := 772) (u := 400 + 1 + 1 + 1 + 1 + 1 + 1 + 1 + 1 + 1 + 1 + 1 + 1 + 1 + 1 + 1 + 1 + 1 + 1 + 1 + 1 + 1 + 1 + 1 + 1 + 1 + 1 + 1 + 1 + 1 + 1 + 1 + 1 + 1 + 1) (j := 1) (U := 1200) (As := [.ref (X.1 0 0), .int _, .long _]) hNC dL_isRefused_772 ll_pegs.1 ll_pegs.2.1 wl_pegs ll_pegs.2.2.2 ll_pegs.2.2.1 (xIA_peg 5 _ hW hI hq (by decide) (by unfold kPeg; exact if_neg (by decide))) rfl rfl (Nat.le_of_ble_eq_true rfl) ⟨Nat.le_of_ble_eq_true rfl, Nat.le_of_ble_eq_true rfl⟩ ⟨by decide, by decide⟩ ⟨rfl, rfl⟩ (by omega) (fun v G hp => ?_)
  obtain ⟨rfl, hW⟩ := hp
  refine v_ldcL (pc := 775) dL_isRefused_775 k_L_109 ?_
  refine v_lcmp (pc := 778) dL_isRefused_778 ?_
  refine v_if_ne (pc := 779) (tgt := 841) dL_isRefused_779 (by decide) (fun c779 => absurd c779 (d_ne rfl)) (fun c779 => ?_)
  refine v_aload_n (pc := 782) dL_isRefused_782 rfl rfl ?_
  refine v_bipush (pc := 783) (v := (-9)) dL_isRefused_783 (by decide) ?_
  refine v_iload_n (pc := 785) dL_isRefused_785 rfl rfl ?_
  refine v_if_eq (pc := 786) (tgt := 801) dL_isRefused_786 (by decide) (fun c786 => absurd c786 (by decide)) (fun c786 => ?_)
  refine v_ldcL (pc := 789) dL_isRefused_789 k_L_151 ?_
  refine v_iload_n (pc := 792) dL_isRefused_792 rfl rfl ?_
  refine v_bipush (pc := 793) (v := 30) dL_isRefused_793 (by decide) ?_
  refine v_nrem (pc := 795) xx 30 dL_isRefused_795 (by omega) (by decide) rfl rfl ?_
  refine v_i2l (pc := 796) dL_isRefused_796 ?_
  refine v_lsub (pc := 797) dL_isRefused_797 ?_
  refine v_goto (pc := 798) (tgt := 804) dL_isRefused_798 (by decide) ?_
  refine vqL (pc := 804) (u := 400 + 1 + 1 + 1 + 1 + 1 + 1 + 1 + 1 + 1 + 1 + 1 + 1 + 1 + 1 + 1 + 1 + 1 + 1 + 1 + 1 + 1 + 1 + 1 + 1 + 1 + 1 + 1 + 1 + 1 + 1 + 1 + 1 + 1 + 1 + 1) (j := 1) (U := 1200) (As := [.ref (X.1 0 0), .int _, .long _]) hNC dL_isRefused_804 ll_pegs.1 ll_pegs.2.1 wl_pegs ll_pegs.2.2.2 ll_pegs.2.2.1 (xIA_gust _ hW hI hq (by unfold kGust; exact if_neg (fun h => l_lo (xx % 30) (by omega) h.1))) rfl rfl (Nat.le_of_ble_eq_true rfl) ⟨Nat.le_of_ble_eq_true rfl, Nat.le_of_ble_eq_true rfl⟩ ⟨by decide, by decide⟩ ⟨rfl, rfl⟩ (by omega) (fun v G hp => ?_)
  obtain ⟨rfl, hW⟩ := hp
  refine v_ldcL (pc := 807) dL_isRefused_807 k_L_109 ?_
  refine v_lcmp (pc := 810) dL_isRefused_810 ?_
  refine v_if_ne (pc := 811) (tgt := 841) dL_isRefused_811 (by decide) (fun c811 => absurd c811 (d_ne rfl)) (fun c811 => ?_)
  refine v_aload_n (pc := 814) dL_isRefused_814 rfl rfl ?_
  refine v_iconst (pc := 815) (v := 3) dL_isRefused_815 (by decide) ?_
  refine vw_m (pc := 816) (j := 3) hW dL_isRefused_816 rfl (by decide) (x := nI (nG s)) (hM.2.2.2.1.trans n4) ?_
  refine v_bipush (pc := 817) (v := 8) dL_isRefused_817 (by decide) ?_
  refine v_icmp_lt (pc := 819) (tgt := 837) dL_isRefused_819 (by decide) (fun c819 => ?_) (fun c819 => ?_)
  · refine vq_u (u' := 440) (by omega) ?_
    exact kk G hW
  · have h8 : nG s = 8 := by
      have : (8 : Int32) ≤ nI (nG s) := n_nlt.mp c819
      have := (nI_leI (a := 8) (by decide) (by omega)).mp this
      omega
    refine v_aload_n (pc := 822) dL_isRefused_822 rfl rfl ?_
    refine v_iconst (pc := 823) (v := 5) dL_isRefused_823 (by decide) ?_
    refine v_ldcL (pc := 824) dL_isRefused_824 k_L_158 ?_
    refine vqL (pc := 827) (u := 400 + 1 + 1 + 1 + 1 + 1 + 1 + 1 + 1 + 1 + 1 + 1 + 1 + 1 + 1 + 1 + 1 + 1 + 1 + 1 + 1 + 1 + 1 + 1 + 1 + 1 + 1 + 1 + 1 + 1 + 1 + 1 + 1 + 1 + 1 + 1 + 1) (j := 1) (U := 1200) (As := [.ref (X.1 0 0), .int _, .long _]) hNC dL_isRefused_827 ll_pegs.1 ll_pegs.2.1 wl_pegs ll_pegs.2.2.2 ll_pegs.2.2.1 (xIS_peg 5 5 hW hI hq (by decide) (by unfold kPeg; rw [if_pos (by decide), if_pos h8])) rfl rfl (Nat.le_of_ble_eq_true rfl) ⟨Nat.le_of_ble_eq_true rfl, Nat.le_of_ble_eq_true rfl⟩ ⟨by decide, by decide⟩ ⟨rfl, rfl⟩ (by omega) (fun v G hp => ?_)
    obtain ⟨rfl, hW⟩ := hp
    refine v_ldcL (pc := 830) dL_isRefused_830 k_L_113 ?_
    refine v_lcmp (pc := 833) dL_isRefused_833 ?_
    refine v_if_ne (pc := 834) (tgt := 841) dL_isRefused_834 (by decide) (fun c834 => absurd c834 (d_ne rfl)) (fun c834 => ?_)
    refine vq_u (u' := 440) (by omega) ?_
    exact kk G hW
set_option maxRecDepth 100000 in
set_option maxHeartbeats 400000 in
theorem w_refl {D : DT} {K : KT} {X : XT} {s : SG} {M : MT} {q xx sz : Nat} {G0 : GT} {h9 t9 r9 : Nat} (e1 : s.1 24 0 = nI h9) (e2 : s.1 25 0 = nI t9) (e3 : s.1 26 0 = nI r9) (hh : h9 < 101) (ht9 : t9 < 101) (hr : r9 < 4) (hI : INV X s q) (hq : q < 512) (hM : MV s M) (hxx : xx < 2147483648) (hNC : NC3 K.2.2.2.1) (hR : Rt rm_isRefused D K (some .boolean) yL_isRefused.name sz G0 (fun v G' => v = some (.int 1) ∧ WD X s M G')) (hpar : xx % 2 = 0) (hC : ∀ i, i < nC s → s.1 32 i = -1 ∨ btw (s.1 32 i) 0 4) (G : GT) (hW : WD X s M G) : V cL_isRefused yL_isRefused.cls 15 rm_isRefused D K 12 [some (.ref (X.1 0 0)), some (.ref M.1.1), some (.int (nI xx)), some (.int 1), none, none, none, none, none, none, none, none, none, none, none] [] G (nu 0) := by
  obtain ⟨b1, b2, b3, b4, b5, n1, n2, n3, n4, n5⟩ := hI.six hq
  have hF : RF9 s (-1 - nI (xx % 30)) (-1 - nI (xx % 30)) (-1 - nI (xx % 30)) (0 - nI (xx % 30)) (-1 - nI (xx % 30)) (-1 - nI (xx % 30)) := ⟨(nb_lo (k := -1 - ((xx % 30 : Nat) : Int)) (sub_ti (k := -1) rfl (by omega) (by decide)) (l := 0) rfl (by omega)), (nb_lo (k := -1 - ((xx % 30 : Nat) : Int)) (sub_ti (k := -1) rfl (by omega) (by decide)) (l := 0) rfl (by omega)), (nb_lo (k := -1 - ((xx % 30 : Nat) : Int)) (sub_ti (k := -1) rfl (by omega) (by decide)) (l := 0) rfl (by omega)), (nb_lo (k := 0 - ((xx % 30 : Nat) : Int)) (sub_ti (k := 0) rfl (by omega) (by decide)) (l := 1) rfl (by omega)), (nb_lo (k := -1 - ((xx % 30 : Nat) : Int)) (sub_ti (k := -1) rfl (by omega) (by decide)) (l := 0) rfl (by omega)), (nb_lo (k := -1 - ((xx % 30 : Nat) : Int)) (sub_ti (k := -1) rfl (by omega) (by decide)) (l := 0) rfl (by omega))⟩
  refine v_iload_n (pc := 12) dL_isRefused_12 rfl rfl ?_
  refine v_if_eq (pc := 13) (tgt := 25) dL_isRefused_13 (by decide) (fun c13 => absurd c13 (by decide)) (fun c13 => ?_)
  refine v_iconst (pc := 16) (v := (-1)) dL_isRefused_16 (by decide) ?_
  refine v_iload_n (pc := 17) dL_isRefused_17 rfl rfl ?_
  refine v_bipush (pc := 18) (v := 30) dL_isRefused_18 (by decide) ?_
  refine v_nrem (pc := 20) xx 30 dL_isRefused_20 (by omega) (by decide) rfl rfl ?_
  refine v_isub (pc := 21) dL_isRefused_21 ?_
  refine v_goto (pc := 22) (tgt := 33) dL_isRefused_22 (by decide) ?_
  refine v_istore (pc := 33) dL_isRefused_33 rfl (by decide) ?_
  refine v_iload_n (pc := 35) dL_isRefused_35 rfl rfl ?_
  refine v_if_eq (pc := 36) (tgt := 48) dL_isRefused_36 (by decide) (fun c36 => absurd c36 (by decide)) (fun c36 => ?_)
  refine v_iconst (pc := 39) (v := (-1)) dL_isRefused_39 (by decide) ?_
  refine v_iload_n (pc := 40) dL_isRefused_40 rfl rfl ?_
  refine v_bipush (pc := 41) (v := 30) dL_isRefused_41 (by decide) ?_
  refine v_nrem (pc := 43) xx 30 dL_isRefused_43 (by omega) (by decide) rfl rfl ?_
  refine v_isub (pc := 44) dL_isRefused_44 ?_
  refine v_goto (pc := 45) (tgt := 56) dL_isRefused_45 (by decide) ?_
  refine v_istore (pc := 56) dL_isRefused_56 rfl (by decide) ?_
  refine v_iload_n (pc := 58) dL_isRefused_58 rfl rfl ?_
  refine v_if_eq (pc := 59) (tgt := 71) dL_isRefused_59 (by decide) (fun c59 => absurd c59 (by decide)) (fun c59 => ?_)
  refine v_iconst (pc := 62) (v := (-1)) dL_isRefused_62 (by decide) ?_
  refine v_iload_n (pc := 63) dL_isRefused_63 rfl rfl ?_
  refine v_bipush (pc := 64) (v := 30) dL_isRefused_64 (by decide) ?_
  refine v_nrem (pc := 66) xx 30 dL_isRefused_66 (by omega) (by decide) rfl rfl ?_
  refine v_isub (pc := 67) dL_isRefused_67 ?_
  refine v_goto (pc := 68) (tgt := 79) dL_isRefused_68 (by decide) ?_
  refine v_istore (pc := 79) dL_isRefused_79 rfl (by decide) ?_
  refine v_iload_n (pc := 81) dL_isRefused_81 rfl rfl ?_
  refine v_if_eq (pc := 82) (tgt := 94) dL_isRefused_82 (by decide) (fun c82 => absurd c82 (by decide)) (fun c82 => ?_)
  refine v_iconst (pc := 85) (v := 0) dL_isRefused_85 (by decide) ?_
  refine v_iload_n (pc := 86) dL_isRefused_86 rfl rfl ?_
  refine v_bipush (pc := 87) (v := 30) dL_isRefused_87 (by decide) ?_
  refine v_nrem (pc := 89) xx 30 dL_isRefused_89 (by omega) (by decide) rfl rfl ?_
  refine v_isub (pc := 90) dL_isRefused_90 ?_
  refine v_goto (pc := 91) (tgt := 101) dL_isRefused_91 (by decide) ?_
  refine v_istore (pc := 101) dL_isRefused_101 rfl (by decide) ?_
  refine v_iload_n (pc := 103) dL_isRefused_103 rfl rfl ?_
  refine v_if_eq (pc := 104) (tgt := 116) dL_isRefused_104 (by decide) (fun c104 => absurd c104 (by decide)) (fun c104 => ?_)
  refine v_iconst (pc := 107) (v := (-1)) dL_isRefused_107 (by decide) ?_
  refine v_iload_n (pc := 108) dL_isRefused_108 rfl rfl ?_
  refine v_bipush (pc := 109) (v := 30) dL_isRefused_109 (by decide) ?_
  refine v_nrem (pc := 111) xx 30 dL_isRefused_111 (by omega) (by decide) rfl rfl ?_
  refine v_isub (pc := 112) dL_isRefused_112 ?_
  refine v_goto (pc := 113) (tgt := 123) dL_isRefused_113 (by decide) ?_
  refine v_istore (pc := 123) dL_isRefused_123 rfl (by decide) ?_
  refine v_iload_n (pc := 125) dL_isRefused_125 rfl rfl ?_
  refine v_if_eq (pc := 126) (tgt := 138) dL_isRefused_126 (by decide) (fun c126 => absurd c126 (by decide)) (fun c126 => ?_)
  refine v_iconst (pc := 129) (v := (-1)) dL_isRefused_129 (by decide) ?_
  refine v_iload_n (pc := 130) dL_isRefused_130 rfl rfl ?_
  refine v_bipush (pc := 131) (v := 30) dL_isRefused_131 (by decide) ?_
  refine v_nrem (pc := 133) xx 30 dL_isRefused_133 (by omega) (by decide) rfl rfl ?_
  refine v_isub (pc := 134) dL_isRefused_134 ?_
  refine v_goto (pc := 135) (tgt := 145) dL_isRefused_135 (by decide) ?_
  refine v_istore (pc := 145) dL_isRefused_145 rfl (by decide) ?_
  refine v_aload_n (pc := 147) dL_isRefused_147 rfl rfl ?_
  refine v_aload_n (pc := 148) dL_isRefused_148 rfl rfl ?_
  refine vqN (pc := 149) (u := 0) (j := 400) (U := 1200) (As := [.ref (X.1 0 0), .ref M.1.1]) hNC dL_isRefused_149 cw_L_138 sm_yL_all (c_L_all D X s M _ q _ _ _ hW hI hq hM e1 e2 e3 hh ht9 hr) rfl rfl (Nat.le_of_ble_eq_true rfl) ⟨Nat.le_of_ble_eq_true rfl, Nat.le_of_ble_eq_true rfl⟩ ⟨by decide, by decide⟩ ⟨rfl, rfl⟩ (by omega) (fun v G hp => ?_)
  obtain ⟨rfl, hW⟩ := hp
  refine v_lstore (pc := 152) dL_isRefused_152 rfl (by decide) ?_
  refine m_refl e1 e2 e3 hh ht9 hr hI hq hM hxx hF hNC (fun G hW => ?_) G hW
  refine v_iconst (pc := 837) (v := 1) dL_isRefused_837 (by decide) ?_
  refine v_goto (pc := 838) (tgt := 842) dL_isRefused_838 (by decide) ?_
  refine v_istore (pc := 842) dL_isRefused_842 rfl (by decide) ?_
  refine v_iconst (pc := 844) (v := nI 0) dL_isRefused_844 (by decide) ?_
  refine v_istore (pc := 845) dL_isRefused_845 rfl (by decide) ?_
  refine l_ref1l hI hq hM hxx hF hNC (u0 := 440) (by omega) (fun G hW => ?_) (nA s) 0 G (by omega) hW
  refine v_iconst (pc := 1054) (v := nI 0) dL_isRefused_1054 (by decide) ?_
  refine v_istore (pc := 1055) dL_isRefused_1055 rfl (by decide) ?_
  refine l_ref2l hI hq hM hxx hF hNC (u0 := 440 + 8 * nA s) (by omega) (fun G hW => ?_) (nB s) 0 G (by omega) hW
  refine v_iconst (pc := 1181) (v := nI 0) dL_isRefused_1181 (by decide) ?_
  refine v_istore (pc := 1182) dL_isRefused_1182 rfl (by decide) ?_
  refine l_ref3l hI hq hM hxx hF hNC hpar hC (u0 := 440 + 8 * nA s + 6 * nB s) (by omega) (fun w14 G hW => ?_) (nC s) 0 none G (by omega) hW
  refine v_iload (pc := 1421) dL_isRefused_1421 rfl ?_
  refine v_if_eq (pc := 1423) (tgt := 1441) dL_isRefused_1423 (by decide) (fun c1423 => absurd c1423 (by decide)) (fun c1423 => ?_)
  refine v_aload_n (pc := 1426) dL_isRefused_1426 rfl rfl ?_
  refine v_aload_n (pc := 1427) dL_isRefused_1427 rfl rfl ?_
  refine vqN (pc := 1428) (u := 440 + 8 * nA s + 6 * nB s + 9 * nC s) (j := 400) (U := 1200) (As := [.ref (X.1 0 0), .ref M.1.1]) hNC dL_isRefused_1428 cw_L_138 sm_yL_all (c_L_all D X s M _ q _ _ _ hW hI hq hM e1 e2 e3 hh ht9 hr) rfl rfl (Nat.le_of_ble_eq_true rfl) ⟨Nat.le_of_ble_eq_true rfl, Nat.le_of_ble_eq_true rfl⟩ ⟨by decide, by decide⟩ ⟨rfl, rfl⟩ (by omega) (fun v G hp => ?_)
  obtain ⟨rfl, hW⟩ := hp
  refine v_lload (pc := 1431) dL_isRefused_1431 rfl ?_
  refine v_lcmp (pc := 1433) dL_isRefused_1433 ?_
  refine v_if_ne (pc := 1434) (tgt := 1441) dL_isRefused_1434 (by decide) (fun c1434 => absurd c1434 (d_ne rfl)) (fun c1434 => ?_)
  refine v_iconst (pc := 1437) (v := 1) dL_isRefused_1437 (by decide) ?_
  refine v_goto (pc := 1438) (tgt := 1442) dL_isRefused_1438 (by decide) ?_
  refine vq_zret (pc := 1442) (U := 1200) hR dL_isRefused_1442 rfl ⟨rfl, rfl⟩ (by omega) ?_
  exact ⟨rfl, hW⟩
