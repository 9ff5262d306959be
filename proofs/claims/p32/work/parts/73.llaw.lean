theorem gS1.flt {g : kW} {f : Int32} (h : gS1 g) : gS1 (kset g 0 0 f) := ⟨h.1, h.2.1, h.2.2⟩
theorem ag_2 {g : kW} (h : gS1 g) : mAg g (dn 1) 2 2 0 = 2 := by
  have e0 : dn 1 = 1 := rfl
  rw [mAg, e0, h.1, if_pos ⟨by decide, by decide⟩]
theorem ag_1 {g : kW} (h : gS1 g) : mAg g (dn 2) 2 2 0 = 1 := by
  have e0 : dn 2 = 2 := rfl
  rw [mAg, e0, h.2.2, if_neg (fun z => z.1 rfl), if_pos rfl]
theorem ag_4 {g : kW} (h : gS1 g) : mAg g (dn 1) 1 2 (-1) = 4 := by
  have e0 : dn 1 = 1 := rfl
  rw [mAg, e0, h.1, if_neg (by decide), if_neg (by decide), if_neg (by decide)]
theorem ag_3 {g : kW} (h : gS1 g) : mAg g (dn 1) 1 2 11 = 3 := by
  have e0 : dn 1 = 1 := rfl
  rw [mAg, e0, h.1, if_neg (by decide), if_neg (by decide), if_pos (by decide), h.2.1, if_neg (by decide)]

set_option maxRecDepth 100000 in
set_option maxHeartbeats 1000000 in
theorem law_799 {n c : Nat} {W g : kW} (h : gL n c W g) (S : gS1 g) : LJ room_1 1004 10106 true lawQ shL RL code 15 (some .boolean) 799 [(0, .ref 1000), (1, .ref 0), (2, .ref 39), (4, .int (nI n))] [] W := by
  obtain ⟨qq, hq⟩ := h.1
  refine l_aload_n dL_law_799 rfl ?_
  refine l_iload dL_law_800 rfl ?_
  refine l_iconst (v := 0) dL_law_802 (by decide) ?_
  refine l_callV2 ⟨Nat.le_of_ble_eq_true rfl, Nat.le_of_ble_eq_true rfl⟩ dL_law_803 lk_L_58 rfl rfl rfl ⟨Nat.le_of_ble_eq_true rfl, Nat.le_of_ble_eq_true rfl⟩ (Nat.le_of_ble_eq_true rfl) (Spec.up (s_X7_ofPerson hq)) (fun r w803 h803 => ?_)
  obtain ⟨rfl, ⟨n9, c9, q9, hr⟩, hk⟩ := up_Q h803
  rw [x_of1 h] at hr ⊢
  have h := h.aux gAx.rf hr hk
  obtain ⟨qq, hq⟩ := h.1
  refine l_topi (y := -1) rfl ?_
  refine l_iconst (v := (-1)) dL_law_806 (by decide) ?_
  refine l_icmp_ne (tgt := 1131) dL_law_807 (by decide) (fun h807 => absurd h807 (by decide)) (fun h807 => ?_)
  refine l_aload_n dL_law_810 rfl ?_
  refine l_iconst (v := 0) dL_law_811 (by decide) ?_
  refine l_bipush (v := 6) dL_law_812 (by decide) ?_
  refine l_callV2 ⟨Nat.le_of_ble_eq_true rfl, Nat.le_of_ble_eq_true rfl⟩ dL_law_814 lk_L_58 rfl rfl rfl ⟨Nat.le_of_ble_eq_true rfl, Nat.le_of_ble_eq_true rfl⟩ (Nat.le_of_ble_eq_true rfl) (Spec.up (s_X7_ofPerson hq)) (fun r w814 h814 => ?_)
  obtain ⟨rfl, ⟨n9, c9, q9, hr⟩, hk⟩ := up_Q h814
  rw [x_of2 h] at hr ⊢
  have h := h.aux gAx.rf hr hk
  obtain ⟨qq, hq⟩ := h.1
  refine l_topi (y := -2) rfl ?_
  refine l_bipush (v := (-2)) dL_law_817 (by decide) ?_
  refine l_icmp_ne (tgt := 1131) dL_law_819 (by decide) (fun h819 => absurd h819 (by decide)) (fun h819 => ?_)
  refine l_aload_n dL_law_822 rfl ?_
  refine l_iload dL_law_823 rfl ?_
  refine l_iconst (v := 0) dL_law_825 (by decide) ?_
  refine l_iconst (v := 0) dL_law_826 (by decide) ?_
  refine l_iconst (v := 1) dL_law_827 (by decide) ?_
  refine l_callV4 ⟨Nat.le_of_ble_eq_true rfl, Nat.le_of_ble_eq_true rfl⟩ dL_law_828 lk_L_32 rfl rfl rfl ⟨Nat.le_of_ble_eq_true rfl, Nat.le_of_ble_eq_true rfl⟩ (Nat.le_of_ble_eq_true rfl) (Spec.up (s_X7_insult hq)) (fun r w828 h828 => ?_)
  obtain ⟨rfl, ⟨n9, c9, q9, hr⟩, hk⟩ := up_Q h828
  rw [x_in1 h] at hr ⊢
  have h := h.aux gAx.rf hr hk
  obtain ⟨qq, hq⟩ := h.1
  refine l_topi (y := -1) rfl ?_
  refine l_iconst (v := (-1)) dL_law_831 (by decide) ?_
  refine l_icmp_ne (tgt := 1131) dL_law_832 (by decide) (fun h832 => absurd h832 (by decide)) (fun h832 => ?_)
  refine l_aload_n dL_law_835 rfl ?_
  refine l_iconst (v := 0) dL_law_836 (by decide) ?_
  refine l_iconst (v := 0) dL_law_837 (by decide) ?_
  refine l_iconst (v := 0) dL_law_838 (by decide) ?_
  refine l_iconst (v := 1) dL_law_839 (by decide) ?_
  refine l_callV4 ⟨Nat.le_of_ble_eq_true rfl, Nat.le_of_ble_eq_true rfl⟩ dL_law_840 lk_L_32 rfl rfl rfl ⟨Nat.le_of_ble_eq_true rfl, Nat.le_of_ble_eq_true rfl⟩ (Nat.le_of_ble_eq_true rfl) (Spec.up (s_X7_insult hq)) (fun r w840 h840 => ?_)
  obtain ⟨rfl, ⟨n9, c9, q9, hr⟩, hk⟩ := up_Q h840
  rw [x_in2 h] at hr ⊢
  have h := h.aux gAx.rf hr hk
  obtain ⟨qq, hq⟩ := h.1
  refine l_topi (y := -1) rfl ?_
  refine l_iconst (v := (-1)) dL_law_843 (by decide) ?_
  refine l_icmp_ne (tgt := 1131) dL_law_844 (by decide) (fun h844 => absurd h844 (by decide)) (fun h844 => ?_)
  refine l_aload_n dL_law_847 rfl ?_
  refine l_iconst (v := 0) dL_law_848 (by decide) ?_
  refine l_iconst (v := 1) dL_law_849 (by decide) ?_
  refine l_bipush (v := 30) dL_law_850 (by decide) ?_
  refine l_iconst (v := 1) dL_law_852 (by decide) ?_
  refine l_callV4 ⟨Nat.le_of_ble_eq_true rfl, Nat.le_of_ble_eq_true rfl⟩ dL_law_853 lk_L_32 rfl rfl rfl ⟨Nat.le_of_ble_eq_true rfl, Nat.le_of_ble_eq_true rfl⟩ (Nat.le_of_ble_eq_true rfl) (Spec.up (s_X7_insult hq)) (fun r w853 h853 => ?_)
  obtain ⟨rfl, ⟨n9, c9, q9, hr⟩, hk⟩ := up_Q h853
  rw [x_in3 h (by decide)] at hr ⊢
  have h := h.aux gAx.rf hr hk
  obtain ⟨qq, hq⟩ := h.1
  refine l_topi (y := -2) rfl ?_
  refine l_bipush (v := (-2)) dL_law_856 (by decide) ?_
  refine l_icmp_ne (tgt := 1131) dL_law_858 (by decide) (fun h858 => absurd h858 (by decide)) (fun h858 => ?_)
  refine l_aload_n dL_law_861 rfl ?_
  refine l_iconst (v := 0) dL_law_862 (by decide) ?_
  refine l_iconst (v := 1) dL_law_863 (by decide) ?_
  refine l_iconst (v := 0) dL_law_864 (by decide) ?_
  refine l_iconst (v := 0) dL_law_865 (by decide) ?_
  refine l_callV4 ⟨Nat.le_of_ble_eq_true rfl, Nat.le_of_ble_eq_true rfl⟩ dL_law_866 lk_L_32 rfl rfl rfl ⟨Nat.le_of_ble_eq_true rfl, Nat.le_of_ble_eq_true rfl⟩ (Nat.le_of_ble_eq_true rfl) (Spec.up (s_X7_insult hq)) (fun r w866 h866 => ?_)
  obtain ⟨rfl, ⟨n9, c9, q9, hr⟩, hk⟩ := up_Q h866
  rw [x_in3 h (by decide)] at hr ⊢
  have h := h.aux gAx.rf hr hk
  obtain ⟨qq, hq⟩ := h.1
  refine l_topi (y := -2) rfl ?_
  refine l_bipush (v := (-2)) dL_law_869 (by decide) ?_
  refine l_icmp_ne (tgt := 1131) dL_law_871 (by decide) (fun h871 => absurd h871 (by decide)) (fun h871 => ?_)
  refine l_aload_n dL_law_874 rfl ?_
  refine l_iconst (v := 0) dL_law_875 (by decide) ?_
  refine l_iconst (v := 1) dL_law_876 (by decide) ?_
  refine l_iconst (v := 0) dL_law_877 (by decide) ?_
  refine l_bipush (v := 10) dL_law_878 (by decide) ?_
  refine l_callV4 ⟨Nat.le_of_ble_eq_true rfl, Nat.le_of_ble_eq_true rfl⟩ dL_law_880 lk_L_32 rfl rfl rfl ⟨Nat.le_of_ble_eq_true rfl, Nat.le_of_ble_eq_true rfl⟩ (Nat.le_of_ble_eq_true rfl) (Spec.up (s_X7_insult hq)) (fun r w880 h880 => ?_)
  obtain ⟨rfl, ⟨n9, c9, q9, hr⟩, hk⟩ := up_Q h880
  rw [x_in3 h (by decide)] at hr ⊢
  have h := h.aux gAx.rf hr hk
  obtain ⟨qq, hq⟩ := h.1
  refine l_topi (y := -2) rfl ?_
  refine l_bipush (v := (-2)) dL_law_883 (by decide) ?_
  refine l_icmp_ne (tgt := 1131) dL_law_885 (by decide) (fun h885 => absurd h885 (by decide)) (fun h885 => ?_)
  refine l_aload_n dL_law_888 rfl ?_
  refine l_aload_n dL_law_889 rfl ?_
  refine l_iconst (v := 1) dL_law_890 (by decide) ?_
  refine l_ialdN dL_law_891 rfl ⟨by decide, by decide⟩ ?_
  refine l_topi (y := nI c) h.2.2.2.2.1 ?_
  refine l_iconst (v := 1) dL_law_892 (by decide) ?_
  refine l_iadd dL_law_893 ?_
  refine l_topi (y := nI (c + 1)) (nI_1 c) ?_
  refine l_callV1 ⟨Nat.le_of_ble_eq_true rfl, Nat.le_of_ble_eq_true rfl⟩ dL_law_894 lk_L_28 rfl rfl rfl ⟨Nat.le_of_ble_eq_true rfl, Nat.le_of_ble_eq_true rfl⟩ (Nat.le_of_ble_eq_true rfl) (Spec.up (s_X7_sorry hq)) (fun r w894 h894 => ?_)
  obtain ⟨rfl, ⟨n9, c9, q9, hr⟩, hk⟩ := up_Q h894
  rw [x_so1 h] at hr ⊢
  have h := h.aux gAx.rf hr hk
  obtain ⟨qq, hq⟩ := h.1
  refine l_topi (y := -2) rfl ?_
  refine l_bipush (v := (-2)) dL_law_897 (by decide) ?_
  refine l_icmp_ne (tgt := 1131) dL_law_899 (by decide) (fun h899 => absurd h899 (by decide)) (fun h899 => ?_)
  refine l_aload_n dL_law_902 rfl ?_
  refine l_iconst (v := (-1)) dL_law_903 (by decide) ?_
  refine l_callV1 ⟨Nat.le_of_ble_eq_true rfl, Nat.le_of_ble_eq_true rfl⟩ dL_law_904 lk_L_28 rfl rfl rfl ⟨Nat.le_of_ble_eq_true rfl, Nat.le_of_ble_eq_true rfl⟩ (Nat.le_of_ble_eq_true rfl) (Spec.up (s_X7_sorry hq)) (fun r w904 h904 => ?_)
  obtain ⟨rfl, ⟨n9, c9, q9, hr⟩, hk⟩ := up_Q h904
  rw [x_so2] at hr ⊢
  have h := h.aux gAx.rf hr hk
  obtain ⟨qq, hq⟩ := h.1
  refine l_topi (y := -2) rfl ?_
  refine l_bipush (v := (-2)) dL_law_907 (by decide) ?_
  refine l_icmp_ne (tgt := 1131) dL_law_909 (by decide) (fun h909 => absurd h909 (by decide)) (fun h909 => ?_)
  refine l_aload_n dL_law_912 rfl ?_
  refine l_iload dL_law_913 rfl ?_
  refine l_iconst (v := 1) dL_law_915 (by decide) ?_
  refine l_callV2 ⟨Nat.le_of_ble_eq_true rfl, Nat.le_of_ble_eq_true rfl⟩ dL_law_916 lk_L_36 rfl rfl rfl ⟨Nat.le_of_ble_eq_true rfl, Nat.le_of_ble_eq_true rfl⟩ (Nat.le_of_ble_eq_true rfl) (Spec.up (s_X7_arrest hq (Or.inr rfl))) (fun r w916 h916 => ?_)
  obtain ⟨rfl, ⟨n9, c9, q9, hr⟩, hk⟩ := up_Q h916
  rw [x_ar h] at hr ⊢
  have h := h.aux gAx.rf hr hk
  obtain ⟨qq, hq⟩ := h.1
  refine l_topi (y := -1) rfl ?_
  refine l_iconst (v := (-1)) dL_law_919 (by decide) ?_
  refine l_icmp_ne (tgt := 1131) dL_law_920 (by decide) (fun h920 => absurd h920 (by decide)) (fun h920 => ?_)
  refine l_aload_n dL_law_923 rfl ?_
  refine l_bipush (v := 60) dL_law_924 (by decide) ?_
  refine l_callV1 ⟨Nat.le_of_ble_eq_true rfl, Nat.le_of_ble_eq_true rfl⟩ dL_law_926 lk_L_71 rfl rfl rfl ⟨Nat.le_of_ble_eq_true rfl, Nat.le_of_ble_eq_true rfl⟩ (Nat.le_of_ble_eq_true rfl) (Spec.up (s_X7_meetings hq)) (fun r w926 h926 => ?_)
  obtain ⟨rfl, hr, hk⟩ := up_K hq h926
  rw [x_me (by decide)]
  have h := h.ask hr hk
  obtain ⟨qq, hq⟩ := h.1
  refine l_bipush (v := (-2)) dL_law_929 (by decide) ?_
  refine l_icmp_ne (tgt := 1131) dL_law_931 (by decide) (fun h931 => absurd h931 (by decide)) (fun h931 => ?_)
  refine l_aload_n dL_law_934 rfl ?_
  refine l_iconst (v := (-1)) dL_law_935 (by decide) ?_
  refine l_callV1 ⟨Nat.le_of_ble_eq_true rfl, Nat.le_of_ble_eq_true rfl⟩ dL_law_936 lk_L_71 rfl rfl rfl ⟨Nat.le_of_ble_eq_true rfl, Nat.le_of_ble_eq_true rfl⟩ (Nat.le_of_ble_eq_true rfl) (Spec.up (s_X7_meetings hq)) (fun r w936 h936 => ?_)
  obtain ⟨rfl, hr, hk⟩ := up_K hq h936
  rw [x_me (by decide)]
  have h := h.ask hr hk
  obtain ⟨qq, hq⟩ := h.1
  refine l_bipush (v := (-2)) dL_law_939 (by decide) ?_
  refine l_icmp_ne (tgt := 1131) dL_law_941 (by decide) (fun h941 => absurd h941 (by decide)) (fun h941 => ?_)
  refine l_aload_n dL_law_944 rfl ?_
  refine l_iload dL_law_945 rfl ?_
  refine l_iconst (v := 0) dL_law_947 (by decide) ?_
  refine l_callV2 ⟨Nat.le_of_ble_eq_true rfl, Nat.le_of_ble_eq_true rfl⟩ dL_law_948 lk_L_74 rfl rfl rfl ⟨Nat.le_of_ble_eq_true rfl, Nat.le_of_ble_eq_true rfl⟩ (Nat.le_of_ble_eq_true rfl) (Spec.up (s_X7_free hq)) (fun r w948 h948 => ?_)
  obtain ⟨rfl, hr, hk⟩ := up_K hq h948
  rw [x_fr1 h]
  have h := h.ask hr hk
  obtain ⟨qq, hq⟩ := h.1
  refine l_iconst (v := (-1)) dL_law_951 (by decide) ?_
  refine l_icmp_ne (tgt := 1131) dL_law_952 (by decide) (fun h952 => absurd h952 (by decide)) (fun h952 => ?_)
  refine l_aload_n dL_law_955 rfl ?_
  refine l_iconst (v := 0) dL_law_956 (by decide) ?_
  refine l_bipush (v := 60) dL_law_957 (by decide) ?_
  refine l_callV2 ⟨Nat.le_of_ble_eq_true rfl, Nat.le_of_ble_eq_true rfl⟩ dL_law_959 lk_L_74 rfl rfl rfl ⟨Nat.le_of_ble_eq_true rfl, Nat.le_of_ble_eq_true rfl⟩ (Nat.le_of_ble_eq_true rfl) (Spec.up (s_X7_free hq)) (fun r w959 h959 => ?_)
  obtain ⟨rfl, hr, hk⟩ := up_K hq h959
  rw [x_fr2 h]
  have h := h.ask hr hk
  obtain ⟨qq, hq⟩ := h.1
  refine l_bipush (v := (-2)) dL_law_962 (by decide) ?_
  refine l_icmp_ne (tgt := 1131) dL_law_964 (by decide) (fun h964 => absurd h964 (by decide)) (fun h964 => ?_)
  refine l_aload_n dL_law_967 rfl ?_
  refine l_iconst (v := 0) dL_law_968 (by decide) ?_
  refine l_iconst (v := 0) dL_law_969 (by decide) ?_
  refine l_iconst (v := 0) dL_law_970 (by decide) ?_
  refine l_callV3 ⟨Nat.le_of_ble_eq_true rfl, Nat.le_of_ble_eq_true rfl⟩ dL_law_971 lk_L_77 rfl rfl rfl ⟨Nat.le_of_ble_eq_true rfl, Nat.le_of_ble_eq_true rfl⟩ (Nat.le_of_ble_eq_true rfl) (Spec.up (s_X7_second hq)) (fun r w971 h971 => ?_)
  obtain ⟨rfl, hr, hk⟩ := up_K hq h971
  rw [x_se1]
  have h := h.ask hr hk
  obtain ⟨qq, hq⟩ := h.1
  refine l_iconst (v := (-1)) dL_law_974 (by decide) ?_
  refine l_icmp_ne (tgt := 1131) dL_law_975 (by decide) (fun h975 => absurd h975 (by decide)) (fun h975 => ?_)
  refine l_aload_n dL_law_978 rfl ?_
  refine l_iconst (v := 0) dL_law_979 (by decide) ?_
  refine l_iload dL_law_980 rfl ?_
  refine l_iconst (v := 0) dL_law_982 (by decide) ?_
  refine l_callV3 ⟨Nat.le_of_ble_eq_true rfl, Nat.le_of_ble_eq_true rfl⟩ dL_law_983 lk_L_77 rfl rfl rfl ⟨Nat.le_of_ble_eq_true rfl, Nat.le_of_ble_eq_true rfl⟩ (Nat.le_of_ble_eq_true rfl) (Spec.up (s_X7_second hq)) (fun r w983 h983 => ?_)
  obtain ⟨rfl, hr, hk⟩ := up_K hq h983
  rw [x_se2 h]
  have h := h.ask hr hk
  obtain ⟨qq, hq⟩ := h.1
  refine l_iconst (v := (-1)) dL_law_986 (by decide) ?_
  refine l_icmp_ne (tgt := 1131) dL_law_987 (by decide) (fun h987 => absurd h987 (by decide)) (fun h987 => ?_)
  refine l_aload_n dL_law_990 rfl ?_
  refine l_iconst (v := 0) dL_law_991 (by decide) ?_
  refine l_iconst (v := 1) dL_law_992 (by decide) ?_
  refine l_bipush (v := 60) dL_law_993 (by decide) ?_
  refine l_callV3 ⟨Nat.le_of_ble_eq_true rfl, Nat.le_of_ble_eq_true rfl⟩ dL_law_995 lk_L_77 rfl rfl rfl ⟨Nat.le_of_ble_eq_true rfl, Nat.le_of_ble_eq_true rfl⟩ (Nat.le_of_ble_eq_true rfl) (Spec.up (s_X7_second hq)) (fun r w995 h995 => ?_)
  obtain ⟨rfl, hr, hk⟩ := up_K hq h995
  rw [x_se3 h]
  have h := h.ask hr hk
  obtain ⟨qq, hq⟩ := h.1
  refine l_bipush (v := (-2)) dL_law_998 (by decide) ?_
  refine l_icmp_ne (tgt := 1131) dL_law_1000 (by decide) (fun h1000 => absurd h1000 (by decide)) (fun h1000 => ?_)
  refine l_aload_n dL_law_1003 rfl ?_
  refine l_aload_n dL_law_1004 rfl ?_
  refine l_iconst (v := 1) dL_law_1005 (by decide) ?_
  refine l_ialdN dL_law_1006 rfl ⟨by decide, by decide⟩ ?_
  refine l_topi (y := nI c) h.2.2.2.2.1 ?_
  refine l_callV1 ⟨Nat.le_of_ble_eq_true rfl, Nat.le_of_ble_eq_true rfl⟩ dL_law_1007 lk_L_79 rfl rfl rfl ⟨Nat.le_of_ble_eq_true rfl, Nat.le_of_ble_eq_true rfl⟩ (Nat.le_of_ble_eq_true rfl) (Spec.up (s_X7_worth hq)) (fun r w1007 h1007 => ?_)
  obtain ⟨rfl, hr, hk⟩ := up_K hq h1007
  rw [x_wo h]
  have h := h.ask hr hk
  obtain ⟨qq, hq⟩ := h.1
  refine l_iconst (v := (-1)) dL_law_1010 (by decide) ?_
  refine l_icmp_ne (tgt := 1131) dL_law_1011 (by decide) (fun h1011 => absurd h1011 (by decide)) (fun h1011 => ?_)
  refine l_aload_n dL_law_1014 rfl ?_
  refine l_iconst (v := 4) dL_law_1015 (by decide) ?_
  refine l_iconst (v := 1) dL_law_1016 (by decide) ?_
  refine l_iconst (v := 2) dL_law_1017 (by decide) ?_
  refine l_iconst (v := 0) dL_law_1018 (by decide) ?_
  refine l_callV4 ⟨Nat.le_of_ble_eq_true rfl, Nat.le_of_ble_eq_true rfl⟩ dL_law_1019 lk_L_82 rfl rfl rfl ⟨Nat.le_of_ble_eq_true rfl, Nat.le_of_ble_eq_true rfl⟩ (Nat.le_of_ble_eq_true rfl) (Spec.up (s_X7_row hq)) (fun r w1019 h1019 => ?_)
  obtain ⟨v, f, hv, rfl, hr, hk⟩ := up_R hq h1019
  have ev : v = -1 := rowU hv (by decide)
  rw [ev]
  have h := h.aux gAx.flt hr hk
  obtain ⟨qq, hq⟩ := h.1
  have S := S.flt (f := f)
  refine l_iconst (v := (-1)) dL_law_1022 (by decide) ?_
  refine l_icmp_ne (tgt := 1131) dL_law_1023 (by decide) (fun h1023 => absurd h1023 (by decide)) (fun h1023 => ?_)
  refine l_aload_n dL_law_1026 rfl ?_
  refine l_iconst (v := 1) dL_law_1027 (by decide) ?_
  refine l_iconst (v := 3) dL_law_1028 (by decide) ?_
  refine l_iconst (v := 2) dL_law_1029 (by decide) ?_
  refine l_iconst (v := 0) dL_law_1030 (by decide) ?_
  refine l_callV4 ⟨Nat.le_of_ble_eq_true rfl, Nat.le_of_ble_eq_true rfl⟩ dL_law_1031 lk_L_82 rfl rfl rfl ⟨Nat.le_of_ble_eq_true rfl, Nat.le_of_ble_eq_true rfl⟩ (Nat.le_of_ble_eq_true rfl) (Spec.up (s_X7_row hq)) (fun r w1031 h1031 => ?_)
  obtain ⟨v, f, hv, rfl, hr, hk⟩ := up_R hq h1031
  have ev : v = -2 := rowO hv (show isS 1 from ⟨by decide, by decide⟩) (by decide)
  rw [ev]
  have h := h.aux gAx.flt hr hk
  obtain ⟨qq, hq⟩ := h.1
  have S := S.flt (f := f)
  refine l_bipush (v := (-2)) dL_law_1034 (by decide) ?_
  refine l_icmp_ne (tgt := 1131) dL_law_1036 (by decide) (fun h1036 => absurd h1036 (by decide)) (fun h1036 => ?_)
  refine l_aload_n dL_law_1039 rfl ?_
  refine l_iconst (v := 1) dL_law_1040 (by decide) ?_
  refine l_iconst (v := 2) dL_law_1041 (by decide) ?_
  refine l_iconst (v := 2) dL_law_1042 (by decide) ?_
  refine l_iconst (v := 0) dL_law_1043 (by decide) ?_
  refine l_callV4 ⟨Nat.le_of_ble_eq_true rfl, Nat.le_of_ble_eq_true rfl⟩ dL_law_1044 lk_L_82 rfl rfl rfl ⟨Nat.le_of_ble_eq_true rfl, Nat.le_of_ble_eq_true rfl⟩ (Nat.le_of_ble_eq_true rfl) (Spec.up (s_X7_row hq)) (fun r w1044 h1044 => ?_)
  obtain ⟨v, f, hv, rfl, hr, hk⟩ := up_R hq h1044
  have ev : v = -12 := by rw [rowF hv (show isS 1 from ⟨by decide, by decide⟩) (show isT 2 from ⟨by decide, by decide⟩) (by rw [ag_2 S]; decide), ag_2 S]; decide
  rw [ev]
  have h := h.aux gAx.flt hr hk
  obtain ⟨qq, hq⟩ := h.1
  have S := S.flt (f := f)
  refine l_bipush (v := (-12)) dL_law_1047 (by decide) ?_
  refine l_icmp_ne (tgt := 1131) dL_law_1049 (by decide) (fun h1049 => absurd h1049 (by decide)) (fun h1049 => ?_)
  refine l_aload_n dL_law_1052 rfl ?_
  refine l_iconst (v := 2) dL_law_1053 (by decide) ?_
  refine l_iconst (v := 2) dL_law_1054 (by decide) ?_
  refine l_iconst (v := 2) dL_law_1055 (by decide) ?_
  refine l_iconst (v := 0) dL_law_1056 (by decide) ?_
  refine l_callV4 ⟨Nat.le_of_ble_eq_true rfl, Nat.le_of_ble_eq_true rfl⟩ dL_law_1057 lk_L_82 rfl rfl rfl ⟨Nat.le_of_ble_eq_true rfl, Nat.le_of_ble_eq_true rfl⟩ (Nat.le_of_ble_eq_true rfl) (Spec.up (s_X7_row hq)) (fun r w1057 h1057 => ?_)
  obtain ⟨v, f, hv, rfl, hr, hk⟩ := up_R hq h1057
  have ev : v = -11 := by rw [rowF hv (show isS 2 from ⟨by decide, by decide⟩) (show isT 2 from ⟨by decide, by decide⟩) (by rw [ag_1 S]; decide), ag_1 S]; decide
  rw [ev]
  have h := h.aux gAx.flt hr hk
  obtain ⟨qq, hq⟩ := h.1
  have S := S.flt (f := f)
  refine l_bipush (v := (-11)) dL_law_1060 (by decide) ?_
  refine l_icmp_ne (tgt := 1131) dL_law_1062 (by decide) (fun h1062 => absurd h1062 (by decide)) (fun h1062 => ?_)
  refine l_aload_n dL_law_1065 rfl ?_
  refine l_iconst (v := 1) dL_law_1066 (by decide) ?_
  refine l_iconst (v := 1) dL_law_1067 (by decide) ?_
  refine l_iconst (v := 2) dL_law_1068 (by decide) ?_
  refine l_iconst (v := (-1)) dL_law_1069 (by decide) ?_
  refine l_callV4 ⟨Nat.le_of_ble_eq_true rfl, Nat.le_of_ble_eq_true rfl⟩ dL_law_1070 lk_L_82 rfl rfl rfl ⟨Nat.le_of_ble_eq_true rfl, Nat.le_of_ble_eq_true rfl⟩ (Nat.le_of_ble_eq_true rfl) (Spec.up (s_X7_row hq)) (fun r w1070 h1070 => ?_)
  obtain ⟨v, f, hv, rfl, hr, hk⟩ := up_R hq h1070
  have ev : v = -14 := by rw [rowF hv (show isS 1 from ⟨by decide, by decide⟩) (show isT 1 from ⟨by decide, by decide⟩) (by rw [ag_4 S]; decide), ag_4 S]; decide
  rw [ev]
  have h := h.aux gAx.flt hr hk
  obtain ⟨qq, hq⟩ := h.1
  have S := S.flt (f := f)
  refine l_bipush (v := (-14)) dL_law_1073 (by decide) ?_
  refine l_icmp_ne (tgt := 1131) dL_law_1075 (by decide) (fun h1075 => absurd h1075 (by decide)) (fun h1075 => ?_)
  refine l_aload_n dL_law_1078 rfl ?_
  refine l_iconst (v := 1) dL_law_1079 (by decide) ?_
  refine l_iconst (v := 1) dL_law_1080 (by decide) ?_
  refine l_iconst (v := 2) dL_law_1081 (by decide) ?_
  refine l_bipush (v := 11) dL_law_1082 (by decide) ?_
  refine l_callV4 ⟨Nat.le_of_ble_eq_true rfl, Nat.le_of_ble_eq_true rfl⟩ dL_law_1084 lk_L_82 rfl rfl rfl ⟨Nat.le_of_ble_eq_true rfl, Nat.le_of_ble_eq_true rfl⟩ (Nat.le_of_ble_eq_true rfl) (Spec.up (s_X7_row hq)) (fun r w1084 h1084 => ?_)
  obtain ⟨v, f, hv, rfl, hr, hk⟩ := up_R hq h1084
  have ev : v = -13 := by rw [rowF hv (show isS 1 from ⟨by decide, by decide⟩) (show isT 1 from ⟨by decide, by decide⟩) (by rw [ag_3 S]; decide), ag_3 S]; decide
  rw [ev]
  have h := h.aux gAx.flt hr hk
  obtain ⟨qq, hq⟩ := h.1
  have S := S.flt (f := f)
  refine l_bipush (v := (-13)) dL_law_1087 (by decide) ?_
  refine l_icmp_ne (tgt := 1131) dL_law_1089 (by decide) (fun h1089 => absurd h1089 (by decide)) (fun h1089 => ?_)
  refine l_aload_n dL_law_1092 rfl ?_
  refine l_iconst (v := 1) dL_law_1093 (by decide) ?_
  refine l_iconst (v := 1) dL_law_1094 (by decide) ?_
  refine l_iconst (v := 2) dL_law_1095 (by decide) ?_
  refine l_iconst (v := 0) dL_law_1096 (by decide) ?_
  refine l_callV4 ⟨Nat.le_of_ble_eq_true rfl, Nat.le_of_ble_eq_true rfl⟩ dL_law_1097 lk_L_82 rfl rfl rfl ⟨Nat.le_of_ble_eq_true rfl, Nat.le_of_ble_eq_true rfl⟩ (Nat.le_of_ble_eq_true rfl) (Spec.up (s_X7_row hq)) (fun r w1097 h1097 => ?_)
  obtain ⟨v, f, hv, rfl, hr, hk⟩ := up_R hq h1097
  have ev : v = 0 := rowT (t := 0) hv (show isS 1 from ⟨by decide, by decide⟩) (show isT 1 from ⟨by decide, by decide⟩) (mAg_1 (m := 0) S (by decide)) h.n0 (fun s hs => absurd hs (Nat.not_lt_zero _)) ⟨Nat.zero_le _, fun s hs => absurd hs (Nat.not_lt_zero _), fun hs => absurd hs (Nat.not_lt_zero _)⟩
  rw [ev]
  have h := h.aux gAx.flt hr hk
  obtain ⟨qq, hq⟩ := h.1
  have S := S.flt (f := f)
  refine l_if_ne (tgt := 1131) dL_law_1100 (by decide) (fun h1100 => absurd h1100 (by decide)) (fun h1100 => ?_)
  refine l_aload_n dL_law_1103 rfl ?_
  refine l_iconst (v := 1) dL_law_1104 (by decide) ?_
  refine l_iconst (v := 2) dL_law_1105 (by decide) ?_
  refine l_iload dL_law_1106 rfl ?_
  refine l_callV3 ⟨Nat.le_of_ble_eq_true rfl, Nat.le_of_ble_eq_true rfl⟩ dL_law_1108 lk_L_25 rfl rfl rfl ⟨Nat.le_of_ble_eq_true rfl, Nat.le_of_ble_eq_true rfl⟩ (Nat.le_of_ble_eq_true rfl) (Spec.up (s_X7_put hq)) (fun r w1108 h1108 => ?_)
  obtain ⟨rfl, ⟨n9, c9, q9, hr⟩, hk⟩ := up_Q h1108
  have hl := h.le
  have eR := R_put_1 S (i := 2) (v := n) (by decide) (by omega)
  have eR2 : ∀ g : kW, R_put g 1 2 (nI n) = R_put g 1 (nI 2) (nI n) := fun _ => rfl
  rw [eR2, eR] at hr ⊢
  have hS2 := S.put (i := 50 + 2) (v := nI n)
  have h := h.aux hS2.2 hr hk
  obtain ⟨qq, hq⟩ := h.1
  refine l_topi (y := 1) rfl ?_
  refine l_iconst (v := 1) dL_law_1111 (by decide) ?_
  refine l_icmp_ne (tgt := 1131) dL_law_1112 (by decide) (fun h1112 => absurd h1112 (by decide)) (fun h1112 => ?_)
  refine l_aload_n dL_law_1115 rfl ?_
  refine l_iconst (v := 1) dL_law_1116 (by decide) ?_
  refine l_iconst (v := 1) dL_law_1117 (by decide) ?_
  refine l_iconst (v := 2) dL_law_1118 (by decide) ?_
  refine l_iconst (v := 1) dL_law_1119 (by decide) ?_
  refine l_callV4 ⟨Nat.le_of_ble_eq_true rfl, Nat.le_of_ble_eq_true rfl⟩ dL_law_1120 lk_L_82 rfl rfl rfl ⟨Nat.le_of_ble_eq_true rfl, Nat.le_of_ble_eq_true rfl⟩ (Nat.le_of_ble_eq_true rfl) (Spec.up (s_X7_row hq)) (fun r w1120 h1120 => ?_)
  obtain ⟨v, f, hv, rfl, hr, hk⟩ := up_R hq h1120
  have ev : v = -1 := rowP (s0 := 0) hv (show isS 1 from ⟨by decide, by decide⟩) (show isT 1 from ⟨by decide, by decide⟩) (mAg_1 (m := 1) hS2.1 (by decide)) h.n0 (by decide) (by rw [txt_1, kset_eq]; exact h.noP)
  rw [ev]
  refine l_iconst (v := (-1)) dL_law_1123 (by decide) ?_
  refine l_icmp_ne (tgt := 1131) dL_law_1124 (by decide) (fun h1124 => absurd h1124 (by decide)) (fun h1124 => ?_)
  refine l_iconst (v := 1) dL_law_1127 (by decide) ?_
  refine l_goto (tgt := 1132) dL_law_1128 (by decide) ?_
  exact l_end rfl ⟨by decide, by decide⟩ dL_law_1132
