set_option maxHeartbeats 4000000 in
set_option maxRecDepth 20000 in
theorem lc_20 {E : dkE} {l : Launch} {G : dkG} {L : Nat} {xs : Nat → Int32} (hGd : dk_Gd G) (hE : dk_Good E cL_law RL 20 dk_Ty l G 0 4 600000 7302250) (hX : dk_Scx E L xs) (i : Int) (hi : 0 ≤ i ∧ i + 6 ≤ (L : Int) ∧ (L : Int) ≤ 3072) (σ : dkS) (h : LX σ) (K : ∀ σ1 : dkS, LX σ1 → dk_PJ E 1624 [(4, (-40)), (4, 0), (4, 141), (0, i)] [] 190 σ1) : dk_PJ E 910 [(4, (-40)), (4, 0), (4, 141), (0, i)] [] 190 σ := by
  obtain ⟨h, hb0, hb1⟩ := h
  refine dk_aload_n (pc' := 911) hE dL_law_910 rfl rfl rfl ?_
  refine dk_aload_n (pc' := 912) hE dL_law_911 rfl rfl rfl ?_
  refine dk_iload_n (pc' := 913) hE dL_law_912 rfl rfl rfl ?_
  refine dk_iconst (pc' := 914) hE dL_law_913 (by decide) rfl ?_
  obtain ⟨v1, hv1⟩ : ∃ z : Int, z = i + 1 := ⟨_, rfl⟩
  refine dk_iadd (pc' := 915) hE dL_law_914 hv1.symm (by omega) rfl ?_
  refine dk_sldx (pc' := 916) hE hX dL_law_915 (by omega) rfl (fun v2 hiv2 hxv2 => ?_)
  refine dk_cL (pc' := 919) (as := [(0, v2)]) hE lk_L_100 (ct_X10_untell l G hGd v2 (σ 0 9)) dL_law_916 rfl is_0 rfl (by decide) (Nat.le_of_ble_eq_true rfl) ⟨rfl, h.1, h.2.1, rfl⟩ rfl (fun r4 σ3 hr4 _ => ?_)
  obtain ⟨v5, rfl, hfσ3, hpr4⟩ := hr4
  have hzσ30_12 := hfσ3 0 12 (by omega)
  have hzσ3141_52 := hfσ3 141 52 (by omega)
  have hzσ337_8 := hfσ3 37 8 (by omega)
  have hzσ3141_54 := hfσ3 141 54 (by omega)
  have L6 : LI σ3 := ⟨GI_fr h.1 (fun k j q => hfσ3 k j (by omega)), by rw [hfσ3 0 9 (by omega)]; exact h.2.1, MI_fr h.2.2 (fun k j q => hfσ3 k j (by omega))⟩
  refine dk_pop (pc' := 920) hE dL_law_919 (show (0 : Nat) ≠ 3 by decide) rfl ?_
  refine dk_aload_n (pc' := 921) hE dL_law_920 rfl rfl rfl ?_
  refine dk_aload_n (pc' := 922) hE dL_law_921 rfl rfl rfl ?_
  refine dk_iload_n (pc' := 923) hE dL_law_922 rfl rfl rfl ?_
  refine dk_iconst (pc' := 924) hE dL_law_923 (by decide) rfl ?_
  obtain ⟨v7, hv7⟩ : ∃ z : Int, z = i + 1 := ⟨_, rfl⟩
  refine dk_iadd (pc' := 925) hE dL_law_924 hv7.symm (by omega) rfl ?_
  refine dk_sldx (pc' := 926) hE hX dL_law_925 (by omega) rfl (fun v8 hiv8 hxv8 => ?_)
  have hqv8 : v8 = v2 := by rw [hxv8, hxv2, show v7 = v1 by omega]
  refine dk_cL (pc' := 929) (as := [(0, v8)]) hE lk_L_104 (ct_X11_untell l G hGd v8) dL_law_926 rfl is_141 rfl (by decide) (Nat.le_of_ble_eq_true rfl) rfl rfl (fun r10 σ9 hr10 _ => ?_)
  obtain ⟨v11, rfl, hfσ9, hpr10⟩ := hr10
  have hzσ90_12 := hfσ9 0 12 (by omega)
  have hzσ9141_52 := hfσ9 141 52 (by omega)
  have hzσ937_8 := hfσ9 37 8 (by omega)
  have hzσ9141_54 := hfσ9 141 54 (by omega)
  have L12 : LI σ9 := ⟨GI_fr L6.1 (fun k j q => hfσ9 k j (by omega)), by rw [hfσ9 0 9 (by omega)]; exact L6.2.1, MI_fr L6.2.2 (fun k j q => hfσ9 k j (by omega))⟩
  refine dk_pop (pc' := 930) hE dL_law_929 (show (0 : Nat) ≠ 3 by decide) rfl ?_
  refine dk_goto (tgt := 1624) hE dL_law_930 (by decide) ?_
  exact K σ9 ⟨L12, by omega, by omega⟩
set_option maxHeartbeats 4000000 in
set_option maxRecDepth 20000 in
theorem lc_21 {E : dkE} {l : Launch} {G : dkG} {L : Nat} {xs : Nat → Int32} (hGd : dk_Gd G) (hE : dk_Good E cL_law RL 20 dk_Ty l G 0 4 600000 7302250) (hX : dk_Scx E L xs) (i : Int) (hi : 0 ≤ i ∧ i + 6 ≤ (L : Int) ∧ (L : Int) ≤ 3072) (σ : dkS) (h : LX σ) (K : ∀ σ1 : dkS, LX σ1 → dk_PJ E 1624 [(4, (-40)), (4, 0), (4, 141), (0, i)] [] 190 σ1) : dk_PJ E 933 [(4, (-40)), (4, 0), (4, 141), (0, i)] [] 190 σ := by
  obtain ⟨h, hb0, hb1⟩ := h
  refine dk_aload_n (pc' := 934) hE dL_law_933 rfl rfl rfl ?_
  refine dk_aload_n (pc' := 935) hE dL_law_934 rfl rfl rfl ?_
  refine dk_iload_n (pc' := 936) hE dL_law_935 rfl rfl rfl ?_
  refine dk_iconst (pc' := 937) hE dL_law_936 (by decide) rfl ?_
  obtain ⟨v1, hv1⟩ : ∃ z : Int, z = i + 1 := ⟨_, rfl⟩
  refine dk_iadd (pc' := 938) hE dL_law_937 hv1.symm (by omega) rfl ?_
  refine dk_sldx (pc' := 939) hE hX dL_law_938 (by omega) rfl (fun v2 hiv2 hxv2 => ?_)
  refine dk_cL (pc' := 942) (as := [(0, v2)]) hE lk_L_105 (ct_X10_later_r l G hGd v2) dL_law_939 rfl is_0 rfl (by decide) (Nat.le_of_ble_eq_true rfl) rfl rfl (fun r4 σ3 hr4 _ => ?_)
  obtain ⟨v5, rfl, hfσ3, hpr4⟩ := hr4
  have hzσ30_12 := hfσ3 0 12 (by omega)
  have hzσ3141_52 := hfσ3 141 52 (by omega)
  have hzσ3141_54 := hfσ3 141 54 (by omega)
  have L6 : LI σ3 := ⟨GI_fr h.1 (fun k j q => hfσ3 k j (by omega)), by rw [hfσ3 0 9 (by omega)]; exact h.2.1, MI_fr h.2.2 (fun k j q => hfσ3 k j (by omega))⟩
  refine dk_aload_n (pc' := 943) hE dL_law_942 rfl rfl rfl ?_
  refine dk_aload_n (pc' := 944) hE dL_law_943 rfl rfl rfl ?_
  refine dk_iload_n (pc' := 945) hE dL_law_944 rfl rfl rfl ?_
  refine dk_iconst (pc' := 946) hE dL_law_945 (by decide) rfl ?_
  obtain ⟨v7, hv7⟩ : ∃ z : Int, z = i + 1 := ⟨_, rfl⟩
  refine dk_iadd (pc' := 947) hE dL_law_946 hv7.symm (by omega) rfl ?_
  refine dk_sldx (pc' := 948) hE hX dL_law_947 (by omega) rfl (fun v8 hiv8 hxv8 => ?_)
  have hqv8 : v8 = v2 := by rw [hxv8, hxv2, show v7 = v1 by omega]
  refine dk_cL (pc' := 951) (as := [(0, v8)]) hE lk_L_108 (ct_X11_later_r l G hGd v8) dL_law_948 rfl is_141 rfl (by decide) (Nat.le_of_ble_eq_true rfl) rfl rfl (fun r10 σ9 hr10 _ => ?_)
  obtain ⟨v11, rfl, hfσ9, hpr10⟩ := hr10
  have hzσ90_12 := hfσ9 0 12 (by omega)
  have hzσ9141_52 := hfσ9 141 52 (by omega)
  have hzσ937_8 := hfσ9 37 8 (by omega)
  have L12 : LI σ9 := ⟨GI_fr L6.1 (fun k j q => hfσ9 k j (by omega)), by rw [hfσ9 0 9 (by omega)]; exact L6.2.1, MI_fr L6.2.2 (fun k j q => hfσ9 k j (by omega))⟩
  refine dk_icmp_eq (tgt := 1624) (pc' := 954) hE dL_law_951 (by decide) rfl (fun _ => K σ9 ⟨L12, by omega, by omega⟩) (fun hc => ?_)
  exfalso
  clear hE hX K hGd
  omega
set_option maxHeartbeats 4000000 in
set_option maxRecDepth 20000 in
theorem lc_22 {E : dkE} {l : Launch} {G : dkG} {L : Nat} {xs : Nat → Int32} (hGd : dk_Gd G) (hE : dk_Good E cL_law RL 20 dk_Ty l G 0 4 600000 7302250) (hX : dk_Scx E L xs) (i : Int) (hi : 0 ≤ i ∧ i + 6 ≤ (L : Int) ∧ (L : Int) ≤ 3072) (σ : dkS) (h : LX σ) (K : ∀ σ1 : dkS, LX σ1 → dk_PJ E 1624 [(4, (-40)), (4, 0), (4, 141), (0, i)] [] 190 σ1) : dk_PJ E 956 [(4, (-40)), (4, 0), (4, 141), (0, i)] [] 190 σ := by
  obtain ⟨h, hb0, hb1⟩ := h
  refine dk_aload_n (pc' := 957) hE dL_law_956 rfl rfl rfl ?_
  refine dk_aload_n (pc' := 958) hE dL_law_957 rfl rfl rfl ?_
  refine dk_iload_n (pc' := 959) hE dL_law_958 rfl rfl rfl ?_
  refine dk_iconst (pc' := 960) hE dL_law_959 (by decide) rfl ?_
  obtain ⟨v1, hv1⟩ : ∃ z : Int, z = i + 1 := ⟨_, rfl⟩
  refine dk_iadd (pc' := 961) hE dL_law_960 hv1.symm (by omega) rfl ?_
  refine dk_sldx (pc' := 962) hE hX dL_law_961 (by omega) rfl (fun v2 hiv2 hxv2 => ?_)
  refine dk_aload_n (pc' := 963) hE dL_law_962 rfl rfl rfl ?_
  refine dk_iload_n (pc' := 964) hE dL_law_963 rfl rfl rfl ?_
  refine dk_iconst (pc' := 965) hE dL_law_964 (by decide) rfl ?_
  obtain ⟨v3, hv3⟩ : ∃ z : Int, z = i + 2 := ⟨_, rfl⟩
  refine dk_iadd (pc' := 966) hE dL_law_965 hv3.symm (by omega) rfl ?_
  refine dk_sldx (pc' := 967) hE hX dL_law_966 (by omega) rfl (fun v4 hiv4 hxv4 => ?_)
  refine dk_aload_n (pc' := 968) hE dL_law_967 rfl rfl rfl ?_
  refine dk_iload_n (pc' := 969) hE dL_law_968 rfl rfl rfl ?_
  refine dk_iconst (pc' := 970) hE dL_law_969 (by decide) rfl ?_
  obtain ⟨v5, hv5⟩ : ∃ z : Int, z = i + 3 := ⟨_, rfl⟩
  refine dk_iadd (pc' := 971) hE dL_law_970 hv5.symm (by omega) rfl ?_
  refine dk_sldx (pc' := 972) hE hX dL_law_971 (by omega) rfl (fun v6 hiv6 hxv6 => ?_)
  refine dk_cL (pc' := 975) (as := [(0, v2), (0, v4), (0, v6)]) hE lk_L_109 (ct_X10_borne l G hGd v2 v4 v6 (σ 0 9)) dL_law_972 rfl is_0 rfl (by decide) (Nat.le_of_ble_eq_true rfl) ⟨rfl, h.1, h.2.1, rfl⟩ rfl (fun r8 σ7 hr8 _ => ?_)
  obtain ⟨v9, rfl, hfσ7, hpr8⟩ := hr8
  have hsσ7 : σ = σ7 := (funext (fun k => funext (fun j => hfσ7 k j not_false))).symm
  subst hsσ7
  refine dk_pop (pc' := 976) hE dL_law_975 (show (0 : Nat) ≠ 3 by decide) rfl ?_
  refine dk_aload_n (pc' := 977) hE dL_law_976 rfl rfl rfl ?_
  refine dk_aload_n (pc' := 978) hE dL_law_977 rfl rfl rfl ?_
  refine dk_iload_n (pc' := 979) hE dL_law_978 rfl rfl rfl ?_
  refine dk_iconst (pc' := 980) hE dL_law_979 (by decide) rfl ?_
  obtain ⟨v10, hv10⟩ : ∃ z : Int, z = i + 1 := ⟨_, rfl⟩
  refine dk_iadd (pc' := 981) hE dL_law_980 hv10.symm (by omega) rfl ?_
  refine dk_sldx (pc' := 982) hE hX dL_law_981 (by omega) rfl (fun v11 hiv11 hxv11 => ?_)
  have hqv11 : v11 = v2 := by rw [hxv11, hxv2, show v10 = v1 by omega]
  refine dk_aload_n (pc' := 983) hE dL_law_982 rfl rfl rfl ?_
  refine dk_iload_n (pc' := 984) hE dL_law_983 rfl rfl rfl ?_
  refine dk_iconst (pc' := 985) hE dL_law_984 (by decide) rfl ?_
  obtain ⟨v12, hv12⟩ : ∃ z : Int, z = i + 2 := ⟨_, rfl⟩
  refine dk_iadd (pc' := 986) hE dL_law_985 hv12.symm (by omega) rfl ?_
  refine dk_sldx (pc' := 987) hE hX dL_law_986 (by omega) rfl (fun v13 hiv13 hxv13 => ?_)
  have hqv13 : v13 = v4 := by rw [hxv13, hxv4, show v12 = v3 by omega]
  refine dk_aload_n (pc' := 988) hE dL_law_987 rfl rfl rfl ?_
  refine dk_iload_n (pc' := 989) hE dL_law_988 rfl rfl rfl ?_
  refine dk_iconst (pc' := 990) hE dL_law_989 (by decide) rfl ?_
  obtain ⟨v14, hv14⟩ : ∃ z : Int, z = i + 3 := ⟨_, rfl⟩
  refine dk_iadd (pc' := 991) hE dL_law_990 hv14.symm (by omega) rfl ?_
  refine dk_sldx (pc' := 992) hE hX dL_law_991 (by omega) rfl (fun v15 hiv15 hxv15 => ?_)
  have hqv15 : v15 = v6 := by rw [hxv15, hxv6, show v14 = v5 by omega]
  refine dk_cL (pc' := 995) (as := [(0, v11), (0, v13), (0, v15)]) hE lk_L_112 (ct_X11_borne l G hGd v11 v13 v15) dL_law_992 rfl is_141 rfl (by decide) (Nat.le_of_ble_eq_true rfl) ⟨rfl, h.2.2⟩ rfl (fun r17 σ16 hr17 _ => ?_)
  obtain ⟨v18, rfl, hfσ16, hpr17⟩ := hr17
  have hsσ16 : σ = σ16 := (funext (fun k => funext (fun j => hfσ16 k j not_false))).symm
  subst hsσ16
  refine dk_pop (pc' := 996) hE dL_law_995 (show (0 : Nat) ≠ 3 by decide) rfl ?_
  refine dk_goto (tgt := 1624) hE dL_law_996 (by decide) ?_
  exact K σ ⟨h, by omega, by omega⟩
set_option maxHeartbeats 4000000 in
set_option maxRecDepth 20000 in
theorem lc_23 {E : dkE} {l : Launch} {G : dkG} {L : Nat} {xs : Nat → Int32} (hGd : dk_Gd G) (hE : dk_Good E cL_law RL 20 dk_Ty l G 0 4 600000 7302250) (hX : dk_Scx E L xs) (i : Int) (hi : 0 ≤ i ∧ i + 6 ≤ (L : Int) ∧ (L : Int) ≤ 3072) (σ : dkS) (h : LX σ) (K : ∀ σ1 : dkS, LX σ1 → dk_PJ E 1624 [(4, (-40)), (4, 0), (4, 141), (0, i)] [] 190 σ1) : dk_PJ E 999 [(4, (-40)), (4, 0), (4, 141), (0, i)] [] 190 σ := by
  obtain ⟨h, hb0, hb1⟩ := h
  refine dk_aload_n (pc' := 1000) hE dL_law_999 rfl rfl rfl ?_
  refine dk_aload_n (pc' := 1001) hE dL_law_1000 rfl rfl rfl ?_
  refine dk_iload_n (pc' := 1002) hE dL_law_1001 rfl rfl rfl ?_
  refine dk_iconst (pc' := 1003) hE dL_law_1002 (by decide) rfl ?_
  obtain ⟨v1, hv1⟩ : ∃ z : Int, z = i + 1 := ⟨_, rfl⟩
  refine dk_iadd (pc' := 1004) hE dL_law_1003 hv1.symm (by omega) rfl ?_
  refine dk_sldx (pc' := 1005) hE hX dL_law_1004 (by omega) rfl (fun v2 hiv2 hxv2 => ?_)
  refine dk_aload_n (pc' := 1006) hE dL_law_1005 rfl rfl rfl ?_
  refine dk_iload_n (pc' := 1007) hE dL_law_1006 rfl rfl rfl ?_
  refine dk_iconst (pc' := 1008) hE dL_law_1007 (by decide) rfl ?_
  obtain ⟨v3, hv3⟩ : ∃ z : Int, z = i + 2 := ⟨_, rfl⟩
  refine dk_iadd (pc' := 1009) hE dL_law_1008 hv3.symm (by omega) rfl ?_
  refine dk_sldx (pc' := 1010) hE hX dL_law_1009 (by omega) rfl (fun v4 hiv4 hxv4 => ?_)
  refine dk_aload_n (pc' := 1011) hE dL_law_1010 rfl rfl rfl ?_
  refine dk_iload_n (pc' := 1012) hE dL_law_1011 rfl rfl rfl ?_
  refine dk_iconst (pc' := 1013) hE dL_law_1012 (by decide) rfl ?_
  obtain ⟨v5, hv5⟩ : ∃ z : Int, z = i + 3 := ⟨_, rfl⟩
  refine dk_iadd (pc' := 1014) hE dL_law_1013 hv5.symm (by omega) rfl ?_
  refine dk_sldx (pc' := 1015) hE hX dL_law_1014 (by omega) rfl (fun v6 hiv6 hxv6 => ?_)
  refine dk_aload_n (pc' := 1016) hE dL_law_1015 rfl rfl rfl ?_
  refine dk_iload_n (pc' := 1017) hE dL_law_1016 rfl rfl rfl ?_
  refine dk_iconst (pc' := 1018) hE dL_law_1017 (by decide) rfl ?_
  obtain ⟨v7, hv7⟩ : ∃ z : Int, z = i + 4 := ⟨_, rfl⟩
  refine dk_iadd (pc' := 1019) hE dL_law_1018 hv7.symm (by omega) rfl ?_
  refine dk_sldx (pc' := 1020) hE hX dL_law_1019 (by omega) rfl (fun v8 hiv8 hxv8 => ?_)
  refine dk_aload_n (pc' := 1021) hE dL_law_1020 rfl rfl rfl ?_
  refine dk_iload_n (pc' := 1022) hE dL_law_1021 rfl rfl rfl ?_
  refine dk_iconst (pc' := 1023) hE dL_law_1022 (by decide) rfl ?_
  obtain ⟨v9, hv9⟩ : ∃ z : Int, z = i + 5 := ⟨_, rfl⟩
  refine dk_iadd (pc' := 1024) hE dL_law_1023 hv9.symm (by omega) rfl ?_
  refine dk_sldx (pc' := 1025) hE hX dL_law_1024 (by omega) rfl (fun v10 hiv10 hxv10 => ?_)
  refine dk_cL (pc' := 1028) (as := [(0, v2), (0, v4), (0, v6), (0, v8), (0, v10)]) hE lk_L_113 (ct_X10_asked l G hGd v2 v4 v6 v8 v10 (σ 0 9)) dL_law_1025 rfl is_0 rfl (by decide) (Nat.le_of_ble_eq_true rfl) ⟨rfl, h.1, h.2.1, rfl⟩ rfl (fun r12 σ11 hr12 _ => ?_)
  obtain ⟨v13, rfl, hfσ11, hpr12⟩ := hr12
  have hzσ110_12 := hfσ11 0 12 (by omega)
  have hzσ11141_52 := hfσ11 141 52 (by omega)
  have hzσ1137_8 := hfσ11 37 8 (by omega)
  have hzσ11141_54 := hfσ11 141 54 (by omega)
  have L14 : LI σ11 := ⟨GI_fr h.1 (fun k j q => hfσ11 k j (by omega)), by rw [hfσ11 0 9 (by omega)]; exact h.2.1, MI_fr h.2.2 (fun k j q => hfσ11 k j (by omega))⟩
  refine dk_pop (pc' := 1029) hE dL_law_1028 (show (0 : Nat) ≠ 3 by decide) rfl ?_
  refine dk_aload_n (pc' := 1030) hE dL_law_1029 rfl rfl rfl ?_
  refine dk_aload_n (pc' := 1031) hE dL_law_1030 rfl rfl rfl ?_
  refine dk_iload_n (pc' := 1032) hE dL_law_1031 rfl rfl rfl ?_
  refine dk_iconst (pc' := 1033) hE dL_law_1032 (by decide) rfl ?_
  obtain ⟨v15, hv15⟩ : ∃ z : Int, z = i + 1 := ⟨_, rfl⟩
  refine dk_iadd (pc' := 1034) hE dL_law_1033 hv15.symm (by omega) rfl ?_
  refine dk_sldx (pc' := 1035) hE hX dL_law_1034 (by omega) rfl (fun v16 hiv16 hxv16 => ?_)
  have hqv16 : v16 = v2 := by rw [hxv16, hxv2, show v15 = v1 by omega]
  refine dk_aload_n (pc' := 1036) hE dL_law_1035 rfl rfl rfl ?_
  refine dk_iload_n (pc' := 1037) hE dL_law_1036 rfl rfl rfl ?_
  refine dk_iconst (pc' := 1038) hE dL_law_1037 (by decide) rfl ?_
  obtain ⟨v17, hv17⟩ : ∃ z : Int, z = i + 2 := ⟨_, rfl⟩
  refine dk_iadd (pc' := 1039) hE dL_law_1038 hv17.symm (by omega) rfl ?_
  refine dk_sldx (pc' := 1040) hE hX dL_law_1039 (by omega) rfl (fun v18 hiv18 hxv18 => ?_)
  have hqv18 : v18 = v4 := by rw [hxv18, hxv4, show v17 = v3 by omega]
  refine dk_aload_n (pc' := 1041) hE dL_law_1040 rfl rfl rfl ?_
  refine dk_iload_n (pc' := 1042) hE dL_law_1041 rfl rfl rfl ?_
  refine dk_iconst (pc' := 1043) hE dL_law_1042 (by decide) rfl ?_
  obtain ⟨v19, hv19⟩ : ∃ z : Int, z = i + 3 := ⟨_, rfl⟩
  refine dk_iadd (pc' := 1044) hE dL_law_1043 hv19.symm (by omega) rfl ?_
  refine dk_sldx (pc' := 1045) hE hX dL_law_1044 (by omega) rfl (fun v20 hiv20 hxv20 => ?_)
  have hqv20 : v20 = v6 := by rw [hxv20, hxv6, show v19 = v5 by omega]
  refine dk_aload_n (pc' := 1046) hE dL_law_1045 rfl rfl rfl ?_
  refine dk_iload_n (pc' := 1047) hE dL_law_1046 rfl rfl rfl ?_
  refine dk_iconst (pc' := 1048) hE dL_law_1047 (by decide) rfl ?_
  obtain ⟨v21, hv21⟩ : ∃ z : Int, z = i + 4 := ⟨_, rfl⟩
  refine dk_iadd (pc' := 1049) hE dL_law_1048 hv21.symm (by omega) rfl ?_
  refine dk_sldx (pc' := 1050) hE hX dL_law_1049 (by omega) rfl (fun v22 hiv22 hxv22 => ?_)
  have hqv22 : v22 = v8 := by rw [hxv22, hxv8, show v21 = v7 by omega]
  refine dk_aload_n (pc' := 1051) hE dL_law_1050 rfl rfl rfl ?_
  refine dk_iload_n (pc' := 1052) hE dL_law_1051 rfl rfl rfl ?_
  refine dk_iconst (pc' := 1053) hE dL_law_1052 (by decide) rfl ?_
  obtain ⟨v23, hv23⟩ : ∃ z : Int, z = i + 5 := ⟨_, rfl⟩
  refine dk_iadd (pc' := 1054) hE dL_law_1053 hv23.symm (by omega) rfl ?_
  refine dk_sldx (pc' := 1055) hE hX dL_law_1054 (by omega) rfl (fun v24 hiv24 hxv24 => ?_)
  have hqv24 : v24 = v10 := by rw [hxv24, hxv10, show v23 = v9 by omega]
  refine dk_cL (pc' := 1058) (as := [(0, v16), (0, v18), (0, v20), (0, v22), (0, v24)]) hE lk_L_116 (ct_X11_asked l G hGd v16 v18 v20 v22 v24) dL_law_1055 rfl is_141 rfl (by decide) (Nat.le_of_ble_eq_true rfl) ⟨rfl, L14.2.2⟩ rfl (fun r26 σ25 hr26 _ => ?_)
  obtain ⟨v27, rfl, hfσ25, hpr26⟩ := hr26
  have hzσ250_12 := hfσ25 0 12 (by omega)
  have hzσ25141_52 := hfσ25 141 52 (by omega)
  have hzσ2537_8 := hfσ25 37 8 (by omega)
  have hzσ25141_54 := hfσ25 141 54 (by omega)
  have L28 : LI σ25 := ⟨GI_fr L14.1 (fun k j q => hfσ25 k j (by omega)), by rw [hfσ25 0 9 (by omega)]; exact L14.2.1, MI_fr L14.2.2 (fun k j q => hfσ25 k j (by omega))⟩
  refine dk_pop (pc' := 1059) hE dL_law_1058 (show (0 : Nat) ≠ 3 by decide) rfl ?_
  refine dk_goto (tgt := 1624) hE dL_law_1059 (by decide) ?_
  exact K σ25 ⟨L28, by omega, by omega⟩
set_option maxHeartbeats 4000000 in
set_option maxRecDepth 20000 in
theorem lc_24 {E : dkE} {l : Launch} {G : dkG} {L : Nat} {xs : Nat → Int32} (hGd : dk_Gd G) (hE : dk_Good E cL_law RL 20 dk_Ty l G 0 4 600000 7302250) (hX : dk_Scx E L xs) (i : Int) (hi : 0 ≤ i ∧ i + 6 ≤ (L : Int) ∧ (L : Int) ≤ 3072) (σ : dkS) (h : LX σ) (K : ∀ σ1 : dkS, LX σ1 → dk_PJ E 1624 [(4, (-40)), (4, 0), (4, 141), (0, i)] [] 190 σ1) : dk_PJ E 1062 [(4, (-40)), (4, 0), (4, 141), (0, i)] [] 190 σ := by
  obtain ⟨h, hb0, hb1⟩ := h
  refine dk_aload_n (pc' := 1063) hE dL_law_1062 rfl rfl rfl ?_
  refine dk_aload_n (pc' := 1064) hE dL_law_1063 rfl rfl rfl ?_
  refine dk_iload_n (pc' := 1065) hE dL_law_1064 rfl rfl rfl ?_
  refine dk_iconst (pc' := 1066) hE dL_law_1065 (by decide) rfl ?_
  obtain ⟨v1, hv1⟩ : ∃ z : Int, z = i + 1 := ⟨_, rfl⟩
  refine dk_iadd (pc' := 1067) hE dL_law_1066 hv1.symm (by omega) rfl ?_
  refine dk_sldx (pc' := 1068) hE hX dL_law_1067 (by omega) rfl (fun v2 hiv2 hxv2 => ?_)
  refine dk_aload_n (pc' := 1069) hE dL_law_1068 rfl rfl rfl ?_
  refine dk_iload_n (pc' := 1070) hE dL_law_1069 rfl rfl rfl ?_
  refine dk_iconst (pc' := 1071) hE dL_law_1070 (by decide) rfl ?_
  obtain ⟨v3, hv3⟩ : ∃ z : Int, z = i + 2 := ⟨_, rfl⟩
  refine dk_iadd (pc' := 1072) hE dL_law_1071 hv3.symm (by omega) rfl ?_
  refine dk_sldx (pc' := 1073) hE hX dL_law_1072 (by omega) rfl (fun v4 hiv4 hxv4 => ?_)
  refine dk_aload_n (pc' := 1074) hE dL_law_1073 rfl rfl rfl ?_
  refine dk_iload_n (pc' := 1075) hE dL_law_1074 rfl rfl rfl ?_
  refine dk_iconst (pc' := 1076) hE dL_law_1075 (by decide) rfl ?_
  obtain ⟨v5, hv5⟩ : ∃ z : Int, z = i + 3 := ⟨_, rfl⟩
  refine dk_iadd (pc' := 1077) hE dL_law_1076 hv5.symm (by omega) rfl ?_
  refine dk_sldx (pc' := 1078) hE hX dL_law_1077 (by omega) rfl (fun v6 hiv6 hxv6 => ?_)
  refine dk_aload_n (pc' := 1079) hE dL_law_1078 rfl rfl rfl ?_
  refine dk_iload_n (pc' := 1080) hE dL_law_1079 rfl rfl rfl ?_
  refine dk_iconst (pc' := 1081) hE dL_law_1080 (by decide) rfl ?_
  obtain ⟨v7, hv7⟩ : ∃ z : Int, z = i + 4 := ⟨_, rfl⟩
  refine dk_iadd (pc' := 1082) hE dL_law_1081 hv7.symm (by omega) rfl ?_
  refine dk_sldx (pc' := 1083) hE hX dL_law_1082 (by omega) rfl (fun v8 hiv8 hxv8 => ?_)
  refine dk_cL (pc' := 1086) (as := [(0, v2), (0, v4), (0, v6), (0, v8)]) hE lk_L_117 (ct_X10_can l G hGd v2 v4 v6 v8 (σ 0 9)) dL_law_1083 rfl is_0 rfl (by decide) (Nat.le_of_ble_eq_true rfl) ⟨rfl, h.1, h.2.1, rfl⟩ rfl (fun r10 σ9 hr10 _ => ?_)
  obtain ⟨v11, rfl, hfσ9, hpr10⟩ := hr10
  have hzσ90_12 := hfσ9 0 12 (by omega)
  have hzσ9141_52 := hfσ9 141 52 (by omega)
  have hzσ937_8 := hfσ9 37 8 (by omega)
  have hzσ9141_54 := hfσ9 141 54 (by omega)
  have L12 : LI σ9 := ⟨GI_fr h.1 (fun k j q => hfσ9 k j (by omega)), by rw [hfσ9 0 9 (by omega)]; exact h.2.1, MI_fr h.2.2 (fun k j q => hfσ9 k j (by omega))⟩
  refine dk_pop (pc' := 1087) hE dL_law_1086 (show (0 : Nat) ≠ 3 by decide) rfl ?_
  refine dk_aload_n (pc' := 1088) hE dL_law_1087 rfl rfl rfl ?_
  refine dk_aload_n (pc' := 1089) hE dL_law_1088 rfl rfl rfl ?_
  refine dk_iload_n (pc' := 1090) hE dL_law_1089 rfl rfl rfl ?_
  refine dk_iconst (pc' := 1091) hE dL_law_1090 (by decide) rfl ?_
  obtain ⟨v13, hv13⟩ : ∃ z : Int, z = i + 1 := ⟨_, rfl⟩
  refine dk_iadd (pc' := 1092) hE dL_law_1091 hv13.symm (by omega) rfl ?_
  refine dk_sldx (pc' := 1093) hE hX dL_law_1092 (by omega) rfl (fun v14 hiv14 hxv14 => ?_)
  have hqv14 : v14 = v2 := by rw [hxv14, hxv2, show v13 = v1 by omega]
  refine dk_aload_n (pc' := 1094) hE dL_law_1093 rfl rfl rfl ?_
  refine dk_iload_n (pc' := 1095) hE dL_law_1094 rfl rfl rfl ?_
  refine dk_iconst (pc' := 1096) hE dL_law_1095 (by decide) rfl ?_
  obtain ⟨v15, hv15⟩ : ∃ z : Int, z = i + 2 := ⟨_, rfl⟩
  refine dk_iadd (pc' := 1097) hE dL_law_1096 hv15.symm (by omega) rfl ?_
  refine dk_sldx (pc' := 1098) hE hX dL_law_1097 (by omega) rfl (fun v16 hiv16 hxv16 => ?_)
  have hqv16 : v16 = v4 := by rw [hxv16, hxv4, show v15 = v3 by omega]
  refine dk_aload_n (pc' := 1099) hE dL_law_1098 rfl rfl rfl ?_
  refine dk_iload_n (pc' := 1100) hE dL_law_1099 rfl rfl rfl ?_
  refine dk_iconst (pc' := 1101) hE dL_law_1100 (by decide) rfl ?_
  obtain ⟨v17, hv17⟩ : ∃ z : Int, z = i + 3 := ⟨_, rfl⟩
  refine dk_iadd (pc' := 1102) hE dL_law_1101 hv17.symm (by omega) rfl ?_
  refine dk_sldx (pc' := 1103) hE hX dL_law_1102 (by omega) rfl (fun v18 hiv18 hxv18 => ?_)
  have hqv18 : v18 = v6 := by rw [hxv18, hxv6, show v17 = v5 by omega]
  refine dk_aload_n (pc' := 1104) hE dL_law_1103 rfl rfl rfl ?_
  refine dk_iload_n (pc' := 1105) hE dL_law_1104 rfl rfl rfl ?_
  refine dk_iconst (pc' := 1106) hE dL_law_1105 (by decide) rfl ?_
  obtain ⟨v19, hv19⟩ : ∃ z : Int, z = i + 4 := ⟨_, rfl⟩
  refine dk_iadd (pc' := 1107) hE dL_law_1106 hv19.symm (by omega) rfl ?_
  refine dk_sldx (pc' := 1108) hE hX dL_law_1107 (by omega) rfl (fun v20 hiv20 hxv20 => ?_)
  have hqv20 : v20 = v8 := by rw [hxv20, hxv8, show v19 = v7 by omega]
  refine dk_cL (pc' := 1111) (as := [(0, v14), (0, v16), (0, v18), (0, v20)]) hE lk_L_120 (ct_X11_can l G hGd v14 v16 v18 v20) dL_law_1108 rfl is_141 rfl (by decide) (Nat.le_of_ble_eq_true rfl) ⟨rfl, L12.2.2⟩ rfl (fun r22 σ21 hr22 _ => ?_)
  obtain ⟨v23, rfl, hfσ21, hpr22⟩ := hr22
  have hzσ210_12 := hfσ21 0 12 (by omega)
  have hzσ21141_52 := hfσ21 141 52 (by omega)
  have hzσ2137_8 := hfσ21 37 8 (by omega)
  have hzσ21141_54 := hfσ21 141 54 (by omega)
  have L24 : LI σ21 := ⟨GI_fr L12.1 (fun k j q => hfσ21 k j (by omega)), by rw [hfσ21 0 9 (by omega)]; exact L12.2.1, MI_fr L12.2.2 (fun k j q => hfσ21 k j (by omega))⟩
  refine dk_pop (pc' := 1112) hE dL_law_1111 (show (0 : Nat) ≠ 3 by decide) rfl ?_
  refine dk_goto (tgt := 1624) hE dL_law_1112 (by decide) ?_
  exact K σ21 ⟨L24, by omega, by omega⟩
set_option maxHeartbeats 4000000 in
set_option maxRecDepth 20000 in
theorem lc_25 {E : dkE} {l : Launch} {G : dkG} {L : Nat} {xs : Nat → Int32} (hGd : dk_Gd G) (hE : dk_Good E cL_law RL 20 dk_Ty l G 0 4 600000 7302250) (hX : dk_Scx E L xs) (i : Int) (hi : 0 ≤ i ∧ i + 6 ≤ (L : Int) ∧ (L : Int) ≤ 3072) (σ : dkS) (h : LX σ) (K : ∀ σ1 : dkS, LX σ1 → dk_PJ E 1624 [(4, (-40)), (4, 0), (4, 141), (0, i)] [] 190 σ1) : dk_PJ E 1115 [(4, (-40)), (4, 0), (4, 141), (0, i)] [] 190 σ := by
  obtain ⟨h, hb0, hb1⟩ := h
  refine dk_aload_n (pc' := 1116) hE dL_law_1115 rfl rfl rfl ?_
  refine dk_aload_n (pc' := 1117) hE dL_law_1116 rfl rfl rfl ?_
  refine dk_iload_n (pc' := 1118) hE dL_law_1117 rfl rfl rfl ?_
  refine dk_iconst (pc' := 1119) hE dL_law_1118 (by decide) rfl ?_
  obtain ⟨v1, hv1⟩ : ∃ z : Int, z = i + 1 := ⟨_, rfl⟩
  refine dk_iadd (pc' := 1120) hE dL_law_1119 hv1.symm (by omega) rfl ?_
  refine dk_sldx (pc' := 1121) hE hX dL_law_1120 (by omega) rfl (fun v2 hiv2 hxv2 => ?_)
  refine dk_aload_n (pc' := 1122) hE dL_law_1121 rfl rfl rfl ?_
  refine dk_iload_n (pc' := 1123) hE dL_law_1122 rfl rfl rfl ?_
  refine dk_iconst (pc' := 1124) hE dL_law_1123 (by decide) rfl ?_
  obtain ⟨v3, hv3⟩ : ∃ z : Int, z = i + 2 := ⟨_, rfl⟩
  refine dk_iadd (pc' := 1125) hE dL_law_1124 hv3.symm (by omega) rfl ?_
  refine dk_sldx (pc' := 1126) hE hX dL_law_1125 (by omega) rfl (fun v4 hiv4 hxv4 => ?_)
  refine dk_aload_n (pc' := 1127) hE dL_law_1126 rfl rfl rfl ?_
  refine dk_iload_n (pc' := 1128) hE dL_law_1127 rfl rfl rfl ?_
  refine dk_iconst (pc' := 1129) hE dL_law_1128 (by decide) rfl ?_
  obtain ⟨v5, hv5⟩ : ∃ z : Int, z = i + 3 := ⟨_, rfl⟩
  refine dk_iadd (pc' := 1130) hE dL_law_1129 hv5.symm (by omega) rfl ?_
  refine dk_sldx (pc' := 1131) hE hX dL_law_1130 (by omega) rfl (fun v6 hiv6 hxv6 => ?_)
  refine dk_cL (pc' := 1134) (as := [(0, v2), (0, v4), (0, v6)]) hE lk_L_121 (ct_X10_cost l G hGd v2 v4 v6 (σ 0 9)) dL_law_1131 rfl is_0 rfl (by decide) (Nat.le_of_ble_eq_true rfl) ⟨rfl, h.1, h.2.1, rfl⟩ rfl (fun r8 σ7 hr8 _ => ?_)
  obtain ⟨v9, rfl, hfσ7, hpr8⟩ := hr8
  have hzσ70_12 := hfσ7 0 12 (by omega)
  have hzσ7141_52 := hfσ7 141 52 (by omega)
  have hzσ737_8 := hfσ7 37 8 (by omega)
  have hzσ7141_54 := hfσ7 141 54 (by omega)
  have L10 : LI σ7 := ⟨GI_fr h.1 (fun k j q => hfσ7 k j (by omega)), by rw [hfσ7 0 9 (by omega)]; exact h.2.1, MI_fr h.2.2 (fun k j q => hfσ7 k j (by omega))⟩
  refine dk_pop2 (pc' := 1135) hE dL_law_1134 rfl ?_
  refine dk_aload_n (pc' := 1136) hE dL_law_1135 rfl rfl rfl ?_
  refine dk_aload_n (pc' := 1137) hE dL_law_1136 rfl rfl rfl ?_
  refine dk_iload_n (pc' := 1138) hE dL_law_1137 rfl rfl rfl ?_
  refine dk_iconst (pc' := 1139) hE dL_law_1138 (by decide) rfl ?_
  obtain ⟨v11, hv11⟩ : ∃ z : Int, z = i + 1 := ⟨_, rfl⟩
  refine dk_iadd (pc' := 1140) hE dL_law_1139 hv11.symm (by omega) rfl ?_
  refine dk_sldx (pc' := 1141) hE hX dL_law_1140 (by omega) rfl (fun v12 hiv12 hxv12 => ?_)
  have hqv12 : v12 = v2 := by rw [hxv12, hxv2, show v11 = v1 by omega]
  refine dk_aload_n (pc' := 1142) hE dL_law_1141 rfl rfl rfl ?_
  refine dk_iload_n (pc' := 1143) hE dL_law_1142 rfl rfl rfl ?_
  refine dk_iconst (pc' := 1144) hE dL_law_1143 (by decide) rfl ?_
  obtain ⟨v13, hv13⟩ : ∃ z : Int, z = i + 2 := ⟨_, rfl⟩
  refine dk_iadd (pc' := 1145) hE dL_law_1144 hv13.symm (by omega) rfl ?_
  refine dk_sldx (pc' := 1146) hE hX dL_law_1145 (by omega) rfl (fun v14 hiv14 hxv14 => ?_)
  have hqv14 : v14 = v4 := by rw [hxv14, hxv4, show v13 = v3 by omega]
  refine dk_aload_n (pc' := 1147) hE dL_law_1146 rfl rfl rfl ?_
  refine dk_iload_n (pc' := 1148) hE dL_law_1147 rfl rfl rfl ?_
  refine dk_iconst (pc' := 1149) hE dL_law_1148 (by decide) rfl ?_
  obtain ⟨v15, hv15⟩ : ∃ z : Int, z = i + 3 := ⟨_, rfl⟩
  refine dk_iadd (pc' := 1150) hE dL_law_1149 hv15.symm (by omega) rfl ?_
  refine dk_sldx (pc' := 1151) hE hX dL_law_1150 (by omega) rfl (fun v16 hiv16 hxv16 => ?_)
  have hqv16 : v16 = v6 := by rw [hxv16, hxv6, show v15 = v5 by omega]
  refine dk_cL (pc' := 1154) (as := [(0, v12), (0, v14), (0, v16)]) hE lk_L_125 (ct_X11_cost l G hGd v12 v14 v16) dL_law_1151 rfl is_141 rfl (by decide) (Nat.le_of_ble_eq_true rfl) ⟨rfl, L10.2.2⟩ rfl (fun r18 σ17 hr18 _ => ?_)
  obtain ⟨v19, rfl, hfσ17, hpr18⟩ := hr18
  have hzσ170_12 := hfσ17 0 12 (by omega)
  have hzσ17141_52 := hfσ17 141 52 (by omega)
  have hzσ1737_8 := hfσ17 37 8 (by omega)
  have hzσ17141_54 := hfσ17 141 54 (by omega)
  have L20 : LI σ17 := ⟨GI_fr L10.1 (fun k j q => hfσ17 k j (by omega)), by rw [hfσ17 0 9 (by omega)]; exact L10.2.1, MI_fr L10.2.2 (fun k j q => hfσ17 k j (by omega))⟩
  refine dk_pop2 (pc' := 1155) hE dL_law_1154 rfl ?_
  refine dk_goto (tgt := 1624) hE dL_law_1155 (by decide) ?_
  exact K σ17 ⟨L20, by omega, by omega⟩
set_option maxHeartbeats 4000000 in
set_option maxRecDepth 20000 in
theorem lc_26 {E : dkE} {l : Launch} {G : dkG} {L : Nat} {xs : Nat → Int32} (hGd : dk_Gd G) (hE : dk_Good E cL_law RL 20 dk_Ty l G 0 4 600000 7302250) (hX : dk_Scx E L xs) (i : Int) (hi : 0 ≤ i ∧ i + 6 ≤ (L : Int) ∧ (L : Int) ≤ 3072) (σ : dkS) (h : LX σ) (K : ∀ σ1 : dkS, LX σ1 → dk_PJ E 1624 [(4, (-40)), (4, 0), (4, 141), (0, i)] [] 190 σ1) : dk_PJ E 1158 [(4, (-40)), (4, 0), (4, 141), (0, i)] [] 190 σ := by
  obtain ⟨h, hb0, hb1⟩ := h
  refine dk_aload_n (pc' := 1159) hE dL_law_1158 rfl rfl rfl ?_
  refine dk_aload_n (pc' := 1160) hE dL_law_1159 rfl rfl rfl ?_
  refine dk_iload_n (pc' := 1161) hE dL_law_1160 rfl rfl rfl ?_
  refine dk_iconst (pc' := 1162) hE dL_law_1161 (by decide) rfl ?_
  obtain ⟨v1, hv1⟩ : ∃ z : Int, z = i + 1 := ⟨_, rfl⟩
  refine dk_iadd (pc' := 1163) hE dL_law_1162 hv1.symm (by omega) rfl ?_
  refine dk_sldx (pc' := 1164) hE hX dL_law_1163 (by omega) rfl (fun v2 hiv2 hxv2 => ?_)
  refine dk_aload_n (pc' := 1165) hE dL_law_1164 rfl rfl rfl ?_
  refine dk_iload_n (pc' := 1166) hE dL_law_1165 rfl rfl rfl ?_
  refine dk_iconst (pc' := 1167) hE dL_law_1166 (by decide) rfl ?_
  obtain ⟨v3, hv3⟩ : ∃ z : Int, z = i + 2 := ⟨_, rfl⟩
  refine dk_iadd (pc' := 1168) hE dL_law_1167 hv3.symm (by omega) rfl ?_
  refine dk_sldx (pc' := 1169) hE hX dL_law_1168 (by omega) rfl (fun v4 hiv4 hxv4 => ?_)
  refine dk_aload_n (pc' := 1170) hE dL_law_1169 rfl rfl rfl ?_
  refine dk_iload_n (pc' := 1171) hE dL_law_1170 rfl rfl rfl ?_
  refine dk_iconst (pc' := 1172) hE dL_law_1171 (by decide) rfl ?_
  obtain ⟨v5, hv5⟩ : ∃ z : Int, z = i + 3 := ⟨_, rfl⟩
  refine dk_iadd (pc' := 1173) hE dL_law_1172 hv5.symm (by omega) rfl ?_
  refine dk_sldx (pc' := 1174) hE hX dL_law_1173 (by omega) rfl (fun v6 hiv6 hxv6 => ?_)
  refine dk_cL (pc' := 1177) (as := [(0, v2), (0, v4), (0, v6)]) hE lk_L_126 (ct_X10_cast l G hGd v2 v4 v6 (σ 0 9)) dL_law_1174 rfl is_0 rfl (by decide) (Nat.le_of_ble_eq_true rfl) ⟨rfl, h.1, h.2.1, rfl⟩ rfl (fun r8 σ7 hr8 _ => ?_)
  obtain ⟨v9, rfl, hfσ7, hpr8⟩ := hr8
  have hzσ70_12 := hfσ7 0 12 (by omega)
  have hzσ7141_52 := hfσ7 141 52 (by omega)
  have hzσ737_8 := hfσ7 37 8 (by omega)
  have hzσ7141_54 := hfσ7 141 54 (by omega)
  have L10 : LI σ7 := ⟨GI_fr h.1 (fun k j q => hfσ7 k j (by omega)), by rw [hfσ7 0 9 (by omega)]; exact h.2.1, MI_fr h.2.2 (fun k j q => hfσ7 k j (by omega))⟩
  refine dk_pop (pc' := 1178) hE dL_law_1177 (show (0 : Nat) ≠ 3 by decide) rfl ?_
  refine dk_aload_n (pc' := 1179) hE dL_law_1178 rfl rfl rfl ?_
  refine dk_aload_n (pc' := 1180) hE dL_law_1179 rfl rfl rfl ?_
  refine dk_iload_n (pc' := 1181) hE dL_law_1180 rfl rfl rfl ?_
  refine dk_iconst (pc' := 1182) hE dL_law_1181 (by decide) rfl ?_
  obtain ⟨v11, hv11⟩ : ∃ z : Int, z = i + 1 := ⟨_, rfl⟩
  refine dk_iadd (pc' := 1183) hE dL_law_1182 hv11.symm (by omega) rfl ?_
  refine dk_sldx (pc' := 1184) hE hX dL_law_1183 (by omega) rfl (fun v12 hiv12 hxv12 => ?_)
  have hqv12 : v12 = v2 := by rw [hxv12, hxv2, show v11 = v1 by omega]
  refine dk_aload_n (pc' := 1185) hE dL_law_1184 rfl rfl rfl ?_
  refine dk_iload_n (pc' := 1186) hE dL_law_1185 rfl rfl rfl ?_
  refine dk_iconst (pc' := 1187) hE dL_law_1186 (by decide) rfl ?_
  obtain ⟨v13, hv13⟩ : ∃ z : Int, z = i + 2 := ⟨_, rfl⟩
  refine dk_iadd (pc' := 1188) hE dL_law_1187 hv13.symm (by omega) rfl ?_
  refine dk_sldx (pc' := 1189) hE hX dL_law_1188 (by omega) rfl (fun v14 hiv14 hxv14 => ?_)
  have hqv14 : v14 = v4 := by rw [hxv14, hxv4, show v13 = v3 by omega]
  refine dk_aload_n (pc' := 1190) hE dL_law_1189 rfl rfl rfl ?_
  refine dk_iload_n (pc' := 1191) hE dL_law_1190 rfl rfl rfl ?_
  refine dk_iconst (pc' := 1192) hE dL_law_1191 (by decide) rfl ?_
  obtain ⟨v15, hv15⟩ : ∃ z : Int, z = i + 3 := ⟨_, rfl⟩
  refine dk_iadd (pc' := 1193) hE dL_law_1192 hv15.symm (by omega) rfl ?_
  refine dk_sldx (pc' := 1194) hE hX dL_law_1193 (by omega) rfl (fun v16 hiv16 hxv16 => ?_)
  have hqv16 : v16 = v6 := by rw [hxv16, hxv6, show v15 = v5 by omega]
  refine dk_cL (pc' := 1197) (as := [(0, v12), (0, v14), (0, v16)]) hE lk_L_129 (ct_X11_cast l G hGd v12 v14 v16) dL_law_1194 rfl is_141 rfl (by decide) (Nat.le_of_ble_eq_true rfl) ⟨rfl, L10.2.2⟩ rfl (fun r18 σ17 hr18 _ => ?_)
  obtain ⟨v19, rfl, hfσ17, hpr18⟩ := hr18
  have hzσ170_12 := hfσ17 0 12 (by omega)
  have hzσ17141_52 := hfσ17 141 52 (by omega)
  have hzσ1737_8 := hfσ17 37 8 (by omega)
  have hzσ17141_54 := hfσ17 141 54 (by omega)
  have L20 : LI σ17 := ⟨GI_fr L10.1 (fun k j q => hfσ17 k j (by omega)), by rw [hfσ17 0 9 (by omega)]; exact L10.2.1, MI_fr L10.2.2 (fun k j q => hfσ17 k j (by omega))⟩
  refine dk_pop (pc' := 1198) hE dL_law_1197 (show (0 : Nat) ≠ 3 by decide) rfl ?_
  refine dk_goto (tgt := 1624) hE dL_law_1198 (by decide) ?_
  exact K σ17 ⟨L20, by omega, by omega⟩
set_option maxHeartbeats 4000000 in
set_option maxRecDepth 20000 in
theorem lc_27 {E : dkE} {l : Launch} {G : dkG} {L : Nat} {xs : Nat → Int32} (hGd : dk_Gd G) (hE : dk_Good E cL_law RL 20 dk_Ty l G 0 4 600000 7302250) (hX : dk_Scx E L xs) (i : Int) (hi : 0 ≤ i ∧ i + 6 ≤ (L : Int) ∧ (L : Int) ≤ 3072) (σ : dkS) (h : LX σ) (K : ∀ σ1 : dkS, LX σ1 → dk_PJ E 1624 [(4, (-40)), (4, 0), (4, 141), (0, i)] [] 190 σ1) : dk_PJ E 1201 [(4, (-40)), (4, 0), (4, 141), (0, i)] [] 190 σ := by
  obtain ⟨h, hb0, hb1⟩ := h
  refine dk_aload_n (pc' := 1202) hE dL_law_1201 rfl rfl rfl ?_
  refine dk_aload_n (pc' := 1203) hE dL_law_1202 rfl rfl rfl ?_
  refine dk_iload_n (pc' := 1204) hE dL_law_1203 rfl rfl rfl ?_
  refine dk_iconst (pc' := 1205) hE dL_law_1204 (by decide) rfl ?_
  obtain ⟨v1, hv1⟩ : ∃ z : Int, z = i + 1 := ⟨_, rfl⟩
  refine dk_iadd (pc' := 1206) hE dL_law_1205 hv1.symm (by omega) rfl ?_
  refine dk_sldx (pc' := 1207) hE hX dL_law_1206 (by omega) rfl (fun v2 hiv2 hxv2 => ?_)
  refine dk_aload_n (pc' := 1208) hE dL_law_1207 rfl rfl rfl ?_
  refine dk_iload_n (pc' := 1209) hE dL_law_1208 rfl rfl rfl ?_
  refine dk_iconst (pc' := 1210) hE dL_law_1209 (by decide) rfl ?_
  obtain ⟨v3, hv3⟩ : ∃ z : Int, z = i + 2 := ⟨_, rfl⟩
  refine dk_iadd (pc' := 1211) hE dL_law_1210 hv3.symm (by omega) rfl ?_
  refine dk_sldx (pc' := 1212) hE hX dL_law_1211 (by omega) rfl (fun v4 hiv4 hxv4 => ?_)
  refine dk_aload_n (pc' := 1213) hE dL_law_1212 rfl rfl rfl ?_
  refine dk_iload_n (pc' := 1214) hE dL_law_1213 rfl rfl rfl ?_
  refine dk_iconst (pc' := 1215) hE dL_law_1214 (by decide) rfl ?_
  obtain ⟨v5, hv5⟩ : ∃ z : Int, z = i + 3 := ⟨_, rfl⟩
  refine dk_iadd (pc' := 1216) hE dL_law_1215 hv5.symm (by omega) rfl ?_
  refine dk_sldx (pc' := 1217) hE hX dL_law_1216 (by omega) rfl (fun v6 hiv6 hxv6 => ?_)
  refine dk_cL (pc' := 1220) (as := [(0, v2), (0, v4), (0, v6)]) hE lk_L_130 (ct_X10_covers l G hGd v2 v4 v6 (σ 0 9)) dL_law_1217 rfl is_0 rfl (by decide) (Nat.le_of_ble_eq_true rfl) ⟨rfl, h.1, h.2.1, rfl⟩ rfl (fun r8 σ7 hr8 _ => ?_)
  obtain ⟨v9, rfl, hfσ7, hpr8⟩ := hr8
  have hzσ70_12 := hfσ7 0 12 (by omega)
  have hzσ7141_52 := hfσ7 141 52 (by omega)
  have hzσ737_8 := hfσ7 37 8 (by omega)
  have hzσ7141_54 := hfσ7 141 54 (by omega)
  have L10 : LI σ7 := ⟨GI_fr h.1 (fun k j q => hfσ7 k j (by omega)), by rw [hfσ7 0 9 (by omega)]; exact h.2.1, MI_fr h.2.2 (fun k j q => hfσ7 k j (by omega))⟩
  refine dk_pop (pc' := 1221) hE dL_law_1220 (show (0 : Nat) ≠ 3 by decide) rfl ?_
  refine dk_aload_n (pc' := 1222) hE dL_law_1221 rfl rfl rfl ?_
  refine dk_aload_n (pc' := 1223) hE dL_law_1222 rfl rfl rfl ?_
  refine dk_iload_n (pc' := 1224) hE dL_law_1223 rfl rfl rfl ?_
  refine dk_iconst (pc' := 1225) hE dL_law_1224 (by decide) rfl ?_
  obtain ⟨v11, hv11⟩ : ∃ z : Int, z = i + 1 := ⟨_, rfl⟩
  refine dk_iadd (pc' := 1226) hE dL_law_1225 hv11.symm (by omega) rfl ?_
  refine dk_sldx (pc' := 1227) hE hX dL_law_1226 (by omega) rfl (fun v12 hiv12 hxv12 => ?_)
  have hqv12 : v12 = v2 := by rw [hxv12, hxv2, show v11 = v1 by omega]
  refine dk_aload_n (pc' := 1228) hE dL_law_1227 rfl rfl rfl ?_
  refine dk_iload_n (pc' := 1229) hE dL_law_1228 rfl rfl rfl ?_
  refine dk_iconst (pc' := 1230) hE dL_law_1229 (by decide) rfl ?_
  obtain ⟨v13, hv13⟩ : ∃ z : Int, z = i + 2 := ⟨_, rfl⟩
  refine dk_iadd (pc' := 1231) hE dL_law_1230 hv13.symm (by omega) rfl ?_
  refine dk_sldx (pc' := 1232) hE hX dL_law_1231 (by omega) rfl (fun v14 hiv14 hxv14 => ?_)
  have hqv14 : v14 = v4 := by rw [hxv14, hxv4, show v13 = v3 by omega]
  refine dk_aload_n (pc' := 1233) hE dL_law_1232 rfl rfl rfl ?_
  refine dk_iload_n (pc' := 1234) hE dL_law_1233 rfl rfl rfl ?_
  refine dk_iconst (pc' := 1235) hE dL_law_1234 (by decide) rfl ?_
  obtain ⟨v15, hv15⟩ : ∃ z : Int, z = i + 3 := ⟨_, rfl⟩
  refine dk_iadd (pc' := 1236) hE dL_law_1235 hv15.symm (by omega) rfl ?_
  refine dk_sldx (pc' := 1237) hE hX dL_law_1236 (by omega) rfl (fun v16 hiv16 hxv16 => ?_)
  have hqv16 : v16 = v6 := by rw [hxv16, hxv6, show v15 = v5 by omega]
  refine dk_cL (pc' := 1240) (as := [(0, v12), (0, v14), (0, v16)]) hE lk_L_133 (ct_X11_covers l G hGd v12 v14 v16) dL_law_1237 rfl is_141 rfl (by decide) (Nat.le_of_ble_eq_true rfl) ⟨rfl, L10.2.2⟩ rfl (fun r18 σ17 hr18 _ => ?_)
  obtain ⟨v19, rfl, hfσ17, hpr18⟩ := hr18
  have hzσ170_12 := hfσ17 0 12 (by omega)
  have hzσ17141_52 := hfσ17 141 52 (by omega)
  have hzσ1737_8 := hfσ17 37 8 (by omega)
  have hzσ17141_54 := hfσ17 141 54 (by omega)
  have L20 : LI σ17 := ⟨GI_fr L10.1 (fun k j q => hfσ17 k j (by omega)), by rw [hfσ17 0 9 (by omega)]; exact L10.2.1, MI_fr L10.2.2 (fun k j q => hfσ17 k j (by omega))⟩
  refine dk_pop (pc' := 1241) hE dL_law_1240 (show (0 : Nat) ≠ 3 by decide) rfl ?_
  refine dk_goto (tgt := 1624) hE dL_law_1241 (by decide) ?_
  exact K σ17 ⟨L20, by omega, by omega⟩
set_option maxHeartbeats 4000000 in
set_option maxRecDepth 20000 in
theorem lc_28 {E : dkE} {l : Launch} {G : dkG} {L : Nat} {xs : Nat → Int32} (hGd : dk_Gd G) (hE : dk_Good E cL_law RL 20 dk_Ty l G 0 4 600000 7302250) (hX : dk_Scx E L xs) (i : Int) (hi : 0 ≤ i ∧ i + 6 ≤ (L : Int) ∧ (L : Int) ≤ 3072) (σ : dkS) (h : LX σ) (K : ∀ σ1 : dkS, LX σ1 → dk_PJ E 1624 [(4, (-40)), (4, 0), (4, 141), (0, i)] [] 190 σ1) : dk_PJ E 1244 [(4, (-40)), (4, 0), (4, 141), (0, i)] [] 190 σ := by
  obtain ⟨h, hb0, hb1⟩ := h
  refine dk_aload_n (pc' := 1245) hE dL_law_1244 rfl rfl rfl ?_
  refine dk_aload_n (pc' := 1246) hE dL_law_1245 rfl rfl rfl ?_
  refine dk_iload_n (pc' := 1247) hE dL_law_1246 rfl rfl rfl ?_
  refine dk_iconst (pc' := 1248) hE dL_law_1247 (by decide) rfl ?_
  obtain ⟨v1, hv1⟩ : ∃ z : Int, z = i + 1 := ⟨_, rfl⟩
  refine dk_iadd (pc' := 1249) hE dL_law_1248 hv1.symm (by omega) rfl ?_
  refine dk_sldx (pc' := 1250) hE hX dL_law_1249 (by omega) rfl (fun v2 hiv2 hxv2 => ?_)
  refine dk_aload_n (pc' := 1251) hE dL_law_1250 rfl rfl rfl ?_
  refine dk_iload_n (pc' := 1252) hE dL_law_1251 rfl rfl rfl ?_
  refine dk_iconst (pc' := 1253) hE dL_law_1252 (by decide) rfl ?_
  obtain ⟨v3, hv3⟩ : ∃ z : Int, z = i + 2 := ⟨_, rfl⟩
  refine dk_iadd (pc' := 1254) hE dL_law_1253 hv3.symm (by omega) rfl ?_
  refine dk_sldx (pc' := 1255) hE hX dL_law_1254 (by omega) rfl (fun v4 hiv4 hxv4 => ?_)
  refine dk_aload_n (pc' := 1256) hE dL_law_1255 rfl rfl rfl ?_
  refine dk_iload_n (pc' := 1257) hE dL_law_1256 rfl rfl rfl ?_
  refine dk_iconst (pc' := 1258) hE dL_law_1257 (by decide) rfl ?_
  obtain ⟨v5, hv5⟩ : ∃ z : Int, z = i + 3 := ⟨_, rfl⟩
  refine dk_iadd (pc' := 1259) hE dL_law_1258 hv5.symm (by omega) rfl ?_
  refine dk_sldx (pc' := 1260) hE hX dL_law_1259 (by omega) rfl (fun v6 hiv6 hxv6 => ?_)
  refine dk_aload_n (pc' := 1261) hE dL_law_1260 rfl rfl rfl ?_
  refine dk_iload_n (pc' := 1262) hE dL_law_1261 rfl rfl rfl ?_
  refine dk_iconst (pc' := 1263) hE dL_law_1262 (by decide) rfl ?_
  obtain ⟨v7, hv7⟩ : ∃ z : Int, z = i + 4 := ⟨_, rfl⟩
  refine dk_iadd (pc' := 1264) hE dL_law_1263 hv7.symm (by omega) rfl ?_
  refine dk_sldx (pc' := 1265) hE hX dL_law_1264 (by omega) rfl (fun v8 hiv8 hxv8 => ?_)
  refine dk_cL (pc' := 1268) (as := [(0, v2), (0, v4), (0, v6), (0, v8)]) hE lk_L_134 (ct_X10_fall l G hGd v2 v4 v6 v8 (σ 0 9)) dL_law_1265 rfl is_0 rfl (by decide) (Nat.le_of_ble_eq_true rfl) ⟨rfl, h.1, h.2.1, rfl⟩ rfl (fun r10 σ9 hr10 _ => ?_)
  obtain ⟨v11, rfl, hfσ9, hpr10⟩ := hr10
  have hzσ90_12 := hfσ9 0 12 (by omega)
  have hzσ9141_52 := hfσ9 141 52 (by omega)
  have hzσ937_8 := hfσ9 37 8 (by omega)
  have hzσ9141_54 := hfσ9 141 54 (by omega)
  have L12 : LI σ9 := ⟨GI_fr h.1 (fun k j q => hfσ9 k j (by omega)), by rw [hfσ9 0 9 (by omega)]; exact h.2.1, MI_fr h.2.2 (fun k j q => hfσ9 k j (by omega))⟩
  refine dk_pop (pc' := 1269) hE dL_law_1268 (show (0 : Nat) ≠ 3 by decide) rfl ?_
  refine dk_aload_n (pc' := 1270) hE dL_law_1269 rfl rfl rfl ?_
  refine dk_aload_n (pc' := 1271) hE dL_law_1270 rfl rfl rfl ?_
  refine dk_iload_n (pc' := 1272) hE dL_law_1271 rfl rfl rfl ?_
  refine dk_iconst (pc' := 1273) hE dL_law_1272 (by decide) rfl ?_
  obtain ⟨v13, hv13⟩ : ∃ z : Int, z = i + 1 := ⟨_, rfl⟩
  refine dk_iadd (pc' := 1274) hE dL_law_1273 hv13.symm (by omega) rfl ?_
  refine dk_sldx (pc' := 1275) hE hX dL_law_1274 (by omega) rfl (fun v14 hiv14 hxv14 => ?_)
  have hqv14 : v14 = v2 := by rw [hxv14, hxv2, show v13 = v1 by omega]
  refine dk_aload_n (pc' := 1276) hE dL_law_1275 rfl rfl rfl ?_
  refine dk_iload_n (pc' := 1277) hE dL_law_1276 rfl rfl rfl ?_
  refine dk_iconst (pc' := 1278) hE dL_law_1277 (by decide) rfl ?_
  obtain ⟨v15, hv15⟩ : ∃ z : Int, z = i + 2 := ⟨_, rfl⟩
  refine dk_iadd (pc' := 1279) hE dL_law_1278 hv15.symm (by omega) rfl ?_
  refine dk_sldx (pc' := 1280) hE hX dL_law_1279 (by omega) rfl (fun v16 hiv16 hxv16 => ?_)
  have hqv16 : v16 = v4 := by rw [hxv16, hxv4, show v15 = v3 by omega]
  refine dk_aload_n (pc' := 1281) hE dL_law_1280 rfl rfl rfl ?_
  refine dk_iload_n (pc' := 1282) hE dL_law_1281 rfl rfl rfl ?_
  refine dk_iconst (pc' := 1283) hE dL_law_1282 (by decide) rfl ?_
  obtain ⟨v17, hv17⟩ : ∃ z : Int, z = i + 3 := ⟨_, rfl⟩
  refine dk_iadd (pc' := 1284) hE dL_law_1283 hv17.symm (by omega) rfl ?_
  refine dk_sldx (pc' := 1285) hE hX dL_law_1284 (by omega) rfl (fun v18 hiv18 hxv18 => ?_)
  have hqv18 : v18 = v6 := by rw [hxv18, hxv6, show v17 = v5 by omega]
  refine dk_aload_n (pc' := 1286) hE dL_law_1285 rfl rfl rfl ?_
  refine dk_iload_n (pc' := 1287) hE dL_law_1286 rfl rfl rfl ?_
  refine dk_iconst (pc' := 1288) hE dL_law_1287 (by decide) rfl ?_
  obtain ⟨v19, hv19⟩ : ∃ z : Int, z = i + 4 := ⟨_, rfl⟩
  refine dk_iadd (pc' := 1289) hE dL_law_1288 hv19.symm (by omega) rfl ?_
  refine dk_sldx (pc' := 1290) hE hX dL_law_1289 (by omega) rfl (fun v20 hiv20 hxv20 => ?_)
  have hqv20 : v20 = v8 := by rw [hxv20, hxv8, show v19 = v7 by omega]
  refine dk_cL (pc' := 1293) (as := [(0, v14), (0, v16), (0, v18), (0, v20)]) hE lk_L_137 (ct_X11_fall l G hGd v14 v16 v18 v20) dL_law_1290 rfl is_141 rfl (by decide) (Nat.le_of_ble_eq_true rfl) ⟨rfl, L12.2.2⟩ rfl (fun r22 σ21 hr22 _ => ?_)
  obtain ⟨v23, rfl, hfσ21, hpr22⟩ := hr22
  have hzσ210_12 := hfσ21 0 12 (by omega)
  have hzσ21141_52 := hfσ21 141 52 (by omega)
  have hzσ2137_8 := hfσ21 37 8 (by omega)
  have hzσ21141_54 := hfσ21 141 54 (by omega)
  have L24 : LI σ21 := ⟨GI_fr L12.1 (fun k j q => hfσ21 k j (by omega)), by rw [hfσ21 0 9 (by omega)]; exact L12.2.1, MI_fr L12.2.2 (fun k j q => hfσ21 k j (by omega))⟩
  refine dk_pop (pc' := 1294) hE dL_law_1293 (show (0 : Nat) ≠ 3 by decide) rfl ?_
  refine dk_goto (tgt := 1624) hE dL_law_1294 (by decide) ?_
  exact K σ21 ⟨L24, by omega, by omega⟩
set_option maxHeartbeats 4000000 in
set_option maxRecDepth 20000 in
theorem lc_29 {E : dkE} {l : Launch} {G : dkG} {L : Nat} {xs : Nat → Int32} (hGd : dk_Gd G) (hE : dk_Good E cL_law RL 20 dk_Ty l G 0 4 600000 7302250) (hX : dk_Scx E L xs) (i : Int) (hi : 0 ≤ i ∧ i + 6 ≤ (L : Int) ∧ (L : Int) ≤ 3072) (σ : dkS) (h : LX σ) (K : ∀ σ1 : dkS, LX σ1 → dk_PJ E 1624 [(4, (-40)), (4, 0), (4, 141), (0, i)] [] 190 σ1) : dk_PJ E 1297 [(4, (-40)), (4, 0), (4, 141), (0, i)] [] 190 σ := by
  obtain ⟨h, hb0, hb1⟩ := h
  refine dk_aload_n (pc' := 1298) hE dL_law_1297 rfl rfl rfl ?_
  refine dk_aload_n (pc' := 1299) hE dL_law_1298 rfl rfl rfl ?_
  refine dk_iload_n (pc' := 1300) hE dL_law_1299 rfl rfl rfl ?_
  refine dk_iconst (pc' := 1301) hE dL_law_1300 (by decide) rfl ?_
  obtain ⟨v1, hv1⟩ : ∃ z : Int, z = i + 1 := ⟨_, rfl⟩
  refine dk_iadd (pc' := 1302) hE dL_law_1301 hv1.symm (by omega) rfl ?_
  refine dk_sldx (pc' := 1303) hE hX dL_law_1302 (by omega) rfl (fun v2 hiv2 hxv2 => ?_)
  refine dk_aload_n (pc' := 1304) hE dL_law_1303 rfl rfl rfl ?_
  refine dk_iload_n (pc' := 1305) hE dL_law_1304 rfl rfl rfl ?_
  refine dk_iconst (pc' := 1306) hE dL_law_1305 (by decide) rfl ?_
  obtain ⟨v3, hv3⟩ : ∃ z : Int, z = i + 2 := ⟨_, rfl⟩
  refine dk_iadd (pc' := 1307) hE dL_law_1306 hv3.symm (by omega) rfl ?_
  refine dk_sldx (pc' := 1308) hE hX dL_law_1307 (by omega) rfl (fun v4 hiv4 hxv4 => ?_)
  refine dk_aload_n (pc' := 1309) hE dL_law_1308 rfl rfl rfl ?_
  refine dk_iload_n (pc' := 1310) hE dL_law_1309 rfl rfl rfl ?_
  refine dk_iconst (pc' := 1311) hE dL_law_1310 (by decide) rfl ?_
  obtain ⟨v5, hv5⟩ : ∃ z : Int, z = i + 3 := ⟨_, rfl⟩
  refine dk_iadd (pc' := 1312) hE dL_law_1311 hv5.symm (by omega) rfl ?_
  refine dk_sldx (pc' := 1313) hE hX dL_law_1312 (by omega) rfl (fun v6 hiv6 hxv6 => ?_)
  refine dk_aload_n (pc' := 1314) hE dL_law_1313 rfl rfl rfl ?_
  refine dk_iload_n (pc' := 1315) hE dL_law_1314 rfl rfl rfl ?_
  refine dk_iconst (pc' := 1316) hE dL_law_1315 (by decide) rfl ?_
  obtain ⟨v7, hv7⟩ : ∃ z : Int, z = i + 4 := ⟨_, rfl⟩
  refine dk_iadd (pc' := 1317) hE dL_law_1316 hv7.symm (by omega) rfl ?_
  refine dk_sldx (pc' := 1318) hE hX dL_law_1317 (by omega) rfl (fun v8 hiv8 hxv8 => ?_)
  refine dk_cL (pc' := 1321) (as := [(0, v2), (0, v4), (0, v6), (0, v8)]) hE lk_L_138 (ct_X10_falls l G hGd v2 v4 v6 v8 (σ 0 9)) dL_law_1318 rfl is_0 rfl (by decide) (Nat.le_of_ble_eq_true rfl) ⟨rfl, h.1, h.2.1, rfl⟩ rfl (fun r10 σ9 hr10 _ => ?_)
  obtain ⟨v11, rfl, hfσ9, hpr10⟩ := hr10
  have hzσ90_12 := hfσ9 0 12 (by omega)
  have hzσ9141_52 := hfσ9 141 52 (by omega)
  have hzσ937_8 := hfσ9 37 8 (by omega)
  have hzσ9141_54 := hfσ9 141 54 (by omega)
  have L12 : LI σ9 := ⟨GI_fr h.1 (fun k j q => hfσ9 k j (by omega)), by rw [hfσ9 0 9 (by omega)]; exact h.2.1, MI_fr h.2.2 (fun k j q => hfσ9 k j (by omega))⟩
  refine dk_pop (pc' := 1322) hE dL_law_1321 (show (0 : Nat) ≠ 3 by decide) rfl ?_
  refine dk_aload_n (pc' := 1323) hE dL_law_1322 rfl rfl rfl ?_
  refine dk_aload_n (pc' := 1324) hE dL_law_1323 rfl rfl rfl ?_
  refine dk_iload_n (pc' := 1325) hE dL_law_1324 rfl rfl rfl ?_
  refine dk_iconst (pc' := 1326) hE dL_law_1325 (by decide) rfl ?_
  obtain ⟨v13, hv13⟩ : ∃ z : Int, z = i + 1 := ⟨_, rfl⟩
  refine dk_iadd (pc' := 1327) hE dL_law_1326 hv13.symm (by omega) rfl ?_
  refine dk_sldx (pc' := 1328) hE hX dL_law_1327 (by omega) rfl (fun v14 hiv14 hxv14 => ?_)
  have hqv14 : v14 = v2 := by rw [hxv14, hxv2, show v13 = v1 by omega]
  refine dk_aload_n (pc' := 1329) hE dL_law_1328 rfl rfl rfl ?_
  refine dk_iload_n (pc' := 1330) hE dL_law_1329 rfl rfl rfl ?_
  refine dk_iconst (pc' := 1331) hE dL_law_1330 (by decide) rfl ?_
  obtain ⟨v15, hv15⟩ : ∃ z : Int, z = i + 2 := ⟨_, rfl⟩
  refine dk_iadd (pc' := 1332) hE dL_law_1331 hv15.symm (by omega) rfl ?_
  refine dk_sldx (pc' := 1333) hE hX dL_law_1332 (by omega) rfl (fun v16 hiv16 hxv16 => ?_)
  have hqv16 : v16 = v4 := by rw [hxv16, hxv4, show v15 = v3 by omega]
  refine dk_aload_n (pc' := 1334) hE dL_law_1333 rfl rfl rfl ?_
  refine dk_iload_n (pc' := 1335) hE dL_law_1334 rfl rfl rfl ?_
  refine dk_iconst (pc' := 1336) hE dL_law_1335 (by decide) rfl ?_
  obtain ⟨v17, hv17⟩ : ∃ z : Int, z = i + 3 := ⟨_, rfl⟩
  refine dk_iadd (pc' := 1337) hE dL_law_1336 hv17.symm (by omega) rfl ?_
  refine dk_sldx (pc' := 1338) hE hX dL_law_1337 (by omega) rfl (fun v18 hiv18 hxv18 => ?_)
  have hqv18 : v18 = v6 := by rw [hxv18, hxv6, show v17 = v5 by omega]
  refine dk_aload_n (pc' := 1339) hE dL_law_1338 rfl rfl rfl ?_
  refine dk_iload_n (pc' := 1340) hE dL_law_1339 rfl rfl rfl ?_
  refine dk_iconst (pc' := 1341) hE dL_law_1340 (by decide) rfl ?_
  obtain ⟨v19, hv19⟩ : ∃ z : Int, z = i + 4 := ⟨_, rfl⟩
  refine dk_iadd (pc' := 1342) hE dL_law_1341 hv19.symm (by omega) rfl ?_
  refine dk_sldx (pc' := 1343) hE hX dL_law_1342 (by omega) rfl (fun v20 hiv20 hxv20 => ?_)
  have hqv20 : v20 = v8 := by rw [hxv20, hxv8, show v19 = v7 by omega]
  refine dk_cL (pc' := 1346) (as := [(0, v14), (0, v16), (0, v18), (0, v20)]) hE lk_L_141 (ct_X11_falls l G hGd v14 v16 v18 v20) dL_law_1343 rfl is_141 rfl (by decide) (Nat.le_of_ble_eq_true rfl) ⟨rfl, L12.2.2⟩ rfl (fun r22 σ21 hr22 _ => ?_)
  obtain ⟨v23, rfl, hfσ21, hpr22⟩ := hr22
  have hzσ210_12 := hfσ21 0 12 (by omega)
  have hzσ21141_52 := hfσ21 141 52 (by omega)
  have hzσ2137_8 := hfσ21 37 8 (by omega)
  have hzσ21141_54 := hfσ21 141 54 (by omega)
  have L24 : LI σ21 := ⟨GI_fr L12.1 (fun k j q => hfσ21 k j (by omega)), by rw [hfσ21 0 9 (by omega)]; exact L12.2.1, MI_fr L12.2.2 (fun k j q => hfσ21 k j (by omega))⟩
  refine dk_pop (pc' := 1347) hE dL_law_1346 (show (0 : Nat) ≠ 3 by decide) rfl ?_
  refine dk_goto (tgt := 1624) hE dL_law_1347 (by decide) ?_
  exact K σ21 ⟨L24, by omega, by omega⟩
