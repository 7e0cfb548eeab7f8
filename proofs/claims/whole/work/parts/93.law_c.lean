set_option maxRecDepth 20000 in
theorem lw_c20 (g : gG) (nm : String) (u q : Nat → Nat) (zS : RS) (zc : va_W) (zi kk jj : Nat) (hi : zi + 6 ≤ g.2.2.2.1) (hL : g.2.2.2.1 ≤ 384) (hI : RI zS) (hC : cR g u zS zc) (hk : kk + 10 ≤ 600000) (hj : jj + 23392 ≤ 7302250) (cont : ∀ (S2 : RS) (z2 : va_W), RI S2 → cR g u S2 z2 → gJ g (mLn nm) 60 600000 7302250 (fun k' j' rv ws' => k' ≤ 600000 ∧ j' ≤ 7302250 ∧ rv = some (.int 1)) (kk + 10) (jj + 23392) 1128 [(3, .int (nI zi)), (2, .ref (q 26)), (1, .ref (u 0)), (0, .ref (gA g 5))] [] (z2 ++ wS g q S2)) : gJ g (mLn nm) 60 600000 7302250 (fun k' j' rv ws' => k' ≤ 600000 ∧ j' ≤ 7302250 ∧ rv = some (.int 1)) kk jj 838 [(3, .int (nI zi)), (2, .ref (q 26)), (1, .ref (u 0)), (0, .ref (gA g 5))] [] (zc ++ wS g q zS) := by
  refine j_aload_n 839 dL_law_838 rfl 2 rfl ?_
  refine j_aload_n 840 dL_law_839 rfl 3 rfl ?_
  refine j_iload_n 841 dL_law_840 rfl 0 rfl ?_
  refine j_iconst (v := (1 : Int32)) 842 dL_law_841 rfl (by decide) ?_
  refine j_iaddN zi 1 843 dL_law_842 rfl ?_
  refine j_sld 844 dL_law_843 rfl (vp_in_nI (by omega) (by omega)) ?_
  refine j_aload_n 845 dL_law_844 rfl 3 rfl ?_
  refine j_iload_n 846 dL_law_845 rfl 0 rfl ?_
  refine j_iconst (v := (2 : Int32)) 847 dL_law_846 rfl (by decide) ?_
  refine j_iaddN zi 2 848 dL_law_847 rfl ?_
  refine j_sld 849 dL_law_848 rfl (vp_in_nI (by omega) (by omega)) ?_
  refine j_aload_n 850 dL_law_849 rfl 3 rfl ?_
  refine j_iload_n 851 dL_law_850 rfl 0 rfl ?_
  refine j_iconst (v := (3 : Int32)) 852 dL_law_851 rfl (by decide) ?_
  refine j_iaddN zi 3 853 dL_law_852 rfl ?_
  refine j_sld 854 dL_law_853 rfl (vp_in_nI (by omega) (by omega)) ?_
  refine j_aload_n 855 dL_law_854 rfl 3 rfl ?_
  refine j_iload_n 856 dL_law_855 rfl 0 rfl ?_
  refine j_iconst (v := (4 : Int32)) 857 dL_law_856 rfl (by decide) ?_
  refine j_iaddN zi 4 858 dL_law_857 rfl ?_
  refine j_sld 859 dL_law_858 rfl (vp_in_nI (by omega) (by omega)) ?_
  obtain ⟨zfs, zmm⟩ := cR_mem hC
  refine j_callVP (As := [.int (g.2.2.2.2 (nI (zi + 1)).toNatClampNeg), .int (g.2.2.2.2 (nI (zi + 2)).toNatClampNeg), .int (g.2.2.2.2 (nI (zi + 3)).toNatClampNeg), .int (g.2.2.2.2 (nI (zi + 4)).toNatClampNeg)]) (rest := []) (wc := zc) (wr := wS g q zS) 862 (k_theft g u zS zc (g.2.2.2.2 (nI (zi + 1)).toNatClampNeg) (g.2.2.2.2 (nI (zi + 2)).toNatClampNeg) (g.2.2.2.2 (nI (zi + 3)).toNatClampNeg) (g.2.2.2.2 (nI (zi + 4)).toNatClampNeg) hI hC) dL_law_859 rfl cv_L_102 rfl rfl zmm rfl (gLe rfl) (gLe rfl) (by omega) (by omega) (fun rv w1 hp => ?_)
  obtain ⟨rfl, hC2⟩ := hp
  refine j_eq (lv2 := [(3, .int (nI zi)), (2, .ref (q 26)), (1, .ref (u 0)), (0, .ref (gA g 5))]) (st2 := [.int ((pM_theft (g.2.2.2.2 (nI (zi + 1)).toNatClampNeg) (g.2.2.2.2 (nI (zi + 2)).toNatClampNeg) (g.2.2.2.2 (nI (zi + 3)).toNatClampNeg) (g.2.2.2.2 (nI (zi + 4)).toNatClampNeg) zS).1)]) (ws2 := w1 ++ wS g q zS) rfl rfl rfl ?_
  refine j_aload_n 863 dL_law_862 rfl 1 rfl ?_
  refine j_aload_n 864 dL_law_863 rfl 3 rfl ?_
  refine j_iload_n 865 dL_law_864 rfl 0 rfl ?_
  refine j_iconst (v := (1 : Int32)) 866 dL_law_865 rfl (by decide) ?_
  refine j_iaddN zi 1 867 dL_law_866 rfl ?_
  refine j_sld 868 dL_law_867 rfl (vp_in_nI (by omega) (by omega)) ?_
  refine j_aload_n 869 dL_law_868 rfl 3 rfl ?_
  refine j_iload_n 870 dL_law_869 rfl 0 rfl ?_
  refine j_iconst (v := (2 : Int32)) 871 dL_law_870 rfl (by decide) ?_
  refine j_iaddN zi 2 872 dL_law_871 rfl ?_
  refine j_sld 873 dL_law_872 rfl (vp_in_nI (by omega) (by omega)) ?_
  refine j_aload_n 874 dL_law_873 rfl 3 rfl ?_
  refine j_iload_n 875 dL_law_874 rfl 0 rfl ?_
  refine j_iconst (v := (3 : Int32)) 876 dL_law_875 rfl (by decide) ?_
  refine j_iaddN zi 3 877 dL_law_876 rfl ?_
  refine j_sld 878 dL_law_877 rfl (vp_in_nI (by omega) (by omega)) ?_
  refine j_aload_n 879 dL_law_878 rfl 3 rfl ?_
  refine j_iload_n 880 dL_law_879 rfl 0 rfl ?_
  refine j_iconst (v := (4 : Int32)) 881 dL_law_880 rfl (by decide) ?_
  refine j_iaddN zi 4 882 dL_law_881 rfl ?_
  refine j_sld 883 dL_law_882 rfl (vp_in_nI (by omega) (by omega)) ?_
  refine j_perm (wS g q zS ++ w1) List.perm_append_comm ?_
  refine j_callVP (As := [.int (g.2.2.2.2 (nI (zi + 1)).toNatClampNeg), .int (g.2.2.2.2 (nI (zi + 2)).toNatClampNeg), .int (g.2.2.2.2 (nI (zi + 3)).toNatClampNeg), .int (g.2.2.2.2 (nI (zi + 4)).toNatClampNeg)]) (rest := [.int ((pM_theft (g.2.2.2.2 (nI (zi + 1)).toNatClampNeg) (g.2.2.2.2 (nI (zi + 2)).toNatClampNeg) (g.2.2.2.2 (nI (zi + 3)).toNatClampNeg) (g.2.2.2.2 (nI (zi + 4)).toNatClampNeg) zS).1)]) (wc := wS g q zS) (wr := w1) 886 (c_X6_theft g q zS.1 zS.2.1 zS.2.2.1 zS.2.2.2 (g.2.2.2.2 (nI (zi + 1)).toNatClampNeg) (g.2.2.2.2 (nI (zi + 2)).toNatClampNeg) (g.2.2.2.2 (nI (zi + 3)).toNatClampNeg) (g.2.2.2.2 (nI (zi + 4)).toNatClampNeg) hI) dL_law_883 rfl cv_L_105 rfl rfl (List.mem_cons_self (l := (wS g q zS).tail)) rfl (gLe rfl) (gLe rfl) (by omega) (by omega) (fun rv w2 hp => ?_)
  obtain ⟨S9, hG, rfl, rfl⟩ := hp
  refine j_eq (lv2 := [(3, .int (nI zi)), (2, .ref (q 26)), (1, .ref (u 0)), (0, .ref (gA g 5))]) (st2 := [.int ((pM_theft (g.2.2.2.2 (nI (zi + 1)).toNatClampNeg) (g.2.2.2.2 (nI (zi + 2)).toNatClampNeg) (g.2.2.2.2 (nI (zi + 3)).toNatClampNeg) (g.2.2.2.2 (nI (zi + 4)).toNatClampNeg) zS).1), .int ((pM_theft (g.2.2.2.2 (nI (zi + 1)).toNatClampNeg) (g.2.2.2.2 (nI (zi + 2)).toNatClampNeg) (g.2.2.2.2 (nI (zi + 3)).toNatClampNeg) (g.2.2.2.2 (nI (zi + 4)).toNatClampNeg) zS).1)]) (ws2 := wS g q S9 ++ w1) rfl rfl rfl ?_
  refine j_perm (w1 ++ wS g q S9) List.perm_append_comm ?_
  refine j_icmp_eq 889 1128 dL_law_886 rfl rfl (fun _ => ?_) (fun hne => absurd rfl hne)
  refine j_widen (kk + 10) (jj + 23392) (by omega) (by omega) ?_
  exact cont S9 w1 (RI_Gq (RI_theft hI (g.2.2.2.2 (nI (zi + 1)).toNatClampNeg) (g.2.2.2.2 (nI (zi + 2)).toNatClampNeg) (g.2.2.2.2 (nI (zi + 3)).toNatClampNeg) (g.2.2.2.2 (nI (zi + 4)).toNatClampNeg)) hG) (cR_Gq (RI_theft hI (g.2.2.2.2 (nI (zi + 1)).toNatClampNeg) (g.2.2.2.2 (nI (zi + 2)).toNatClampNeg) (g.2.2.2.2 (nI (zi + 3)).toNatClampNeg) (g.2.2.2.2 (nI (zi + 4)).toNatClampNeg)) hG hC2)
set_option maxRecDepth 20000 in
theorem lw_c21 (g : gG) (nm : String) (u q : Nat → Nat) (zS : RS) (zc : va_W) (zi kk jj : Nat) (hi : zi + 6 ≤ g.2.2.2.1) (hL : g.2.2.2.1 ≤ 384) (hI : RI zS) (hC : cR g u zS zc) (hk : kk + 10 ≤ 600000) (hj : jj + 23392 ≤ 7302250) (cont : ∀ (S2 : RS) (z2 : va_W), RI S2 → cR g u S2 z2 → gJ g (mLn nm) 60 600000 7302250 (fun k' j' rv ws' => k' ≤ 600000 ∧ j' ≤ 7302250 ∧ rv = some (.int 1)) (kk + 10) (jj + 23392) 1128 [(3, .int (nI zi)), (2, .ref (q 26)), (1, .ref (u 0)), (0, .ref (gA g 5))] [] (z2 ++ wS g q S2)) : gJ g (mLn nm) 60 600000 7302250 (fun k' j' rv ws' => k' ≤ 600000 ∧ j' ≤ 7302250 ∧ rv = some (.int 1)) kk jj 891 [(3, .int (nI zi)), (2, .ref (q 26)), (1, .ref (u 0)), (0, .ref (gA g 5))] [] (zc ++ wS g q zS) := by
  refine j_aload_n 892 dL_law_891 rfl 2 rfl ?_
  refine j_aload_n 893 dL_law_892 rfl 3 rfl ?_
  refine j_iload_n 894 dL_law_893 rfl 0 rfl ?_
  refine j_iconst (v := (1 : Int32)) 895 dL_law_894 rfl (by decide) ?_
  refine j_iaddN zi 1 896 dL_law_895 rfl ?_
  refine j_sld 897 dL_law_896 rfl (vp_in_nI (by omega) (by omega)) ?_
  refine j_aload_n 898 dL_law_897 rfl 3 rfl ?_
  refine j_iload_n 899 dL_law_898 rfl 0 rfl ?_
  refine j_iconst (v := (2 : Int32)) 900 dL_law_899 rfl (by decide) ?_
  refine j_iaddN zi 2 901 dL_law_900 rfl ?_
  refine j_sld 902 dL_law_901 rfl (vp_in_nI (by omega) (by omega)) ?_
  refine j_aload_n 903 dL_law_902 rfl 3 rfl ?_
  refine j_iload_n 904 dL_law_903 rfl 0 rfl ?_
  refine j_iconst (v := (3 : Int32)) 905 dL_law_904 rfl (by decide) ?_
  refine j_iaddN zi 3 906 dL_law_905 rfl ?_
  refine j_sld 907 dL_law_906 rfl (vp_in_nI (by omega) (by omega)) ?_
  obtain ⟨zfs, zmm⟩ := cR_mem hC
  refine j_callVP (As := [.int (g.2.2.2.2 (nI (zi + 1)).toNatClampNeg), .int (g.2.2.2.2 (nI (zi + 2)).toNatClampNeg), .int (g.2.2.2.2 (nI (zi + 3)).toNatClampNeg)]) (rest := []) (wc := zc) (wr := wS g q zS) 910 (k_mixed g u zS zc (g.2.2.2.2 (nI (zi + 1)).toNatClampNeg) (g.2.2.2.2 (nI (zi + 2)).toNatClampNeg) (g.2.2.2.2 (nI (zi + 3)).toNatClampNeg) hI hC) dL_law_907 rfl cv_L_106 rfl rfl zmm rfl (gLe rfl) (gLe rfl) (by omega) (by omega) (fun rv w1 hp => ?_)
  obtain ⟨rfl, hC2⟩ := hp
  refine j_eq (lv2 := [(3, .int (nI zi)), (2, .ref (q 26)), (1, .ref (u 0)), (0, .ref (gA g 5))]) (st2 := [.int ((pM_mixed (g.2.2.2.2 (nI (zi + 1)).toNatClampNeg) (g.2.2.2.2 (nI (zi + 2)).toNatClampNeg) (g.2.2.2.2 (nI (zi + 3)).toNatClampNeg) zS).1)]) (ws2 := w1 ++ wS g q zS) rfl rfl rfl ?_
  refine j_aload_n 911 dL_law_910 rfl 1 rfl ?_
  refine j_aload_n 912 dL_law_911 rfl 3 rfl ?_
  refine j_iload_n 913 dL_law_912 rfl 0 rfl ?_
  refine j_iconst (v := (1 : Int32)) 914 dL_law_913 rfl (by decide) ?_
  refine j_iaddN zi 1 915 dL_law_914 rfl ?_
  refine j_sld 916 dL_law_915 rfl (vp_in_nI (by omega) (by omega)) ?_
  refine j_aload_n 917 dL_law_916 rfl 3 rfl ?_
  refine j_iload_n 918 dL_law_917 rfl 0 rfl ?_
  refine j_iconst (v := (2 : Int32)) 919 dL_law_918 rfl (by decide) ?_
  refine j_iaddN zi 2 920 dL_law_919 rfl ?_
  refine j_sld 921 dL_law_920 rfl (vp_in_nI (by omega) (by omega)) ?_
  refine j_aload_n 922 dL_law_921 rfl 3 rfl ?_
  refine j_iload_n 923 dL_law_922 rfl 0 rfl ?_
  refine j_iconst (v := (3 : Int32)) 924 dL_law_923 rfl (by decide) ?_
  refine j_iaddN zi 3 925 dL_law_924 rfl ?_
  refine j_sld 926 dL_law_925 rfl (vp_in_nI (by omega) (by omega)) ?_
  refine j_perm (wS g q zS ++ w1) List.perm_append_comm ?_
  refine j_callVP (As := [.int (g.2.2.2.2 (nI (zi + 1)).toNatClampNeg), .int (g.2.2.2.2 (nI (zi + 2)).toNatClampNeg), .int (g.2.2.2.2 (nI (zi + 3)).toNatClampNeg)]) (rest := [.int ((pM_mixed (g.2.2.2.2 (nI (zi + 1)).toNatClampNeg) (g.2.2.2.2 (nI (zi + 2)).toNatClampNeg) (g.2.2.2.2 (nI (zi + 3)).toNatClampNeg) zS).1)]) (wc := wS g q zS) (wr := w1) 929 (c_X6_mixed g q zS.1 zS.2.1 zS.2.2.1 zS.2.2.2 (g.2.2.2.2 (nI (zi + 1)).toNatClampNeg) (g.2.2.2.2 (nI (zi + 2)).toNatClampNeg) (g.2.2.2.2 (nI (zi + 3)).toNatClampNeg) hI) dL_law_926 rfl cv_L_109 rfl rfl (List.mem_cons_self (l := (wS g q zS).tail)) rfl (gLe rfl) (gLe rfl) (by omega) (by omega) (fun rv w2 hp => ?_)
  obtain ⟨S9, hG, rfl, rfl⟩ := hp
  refine j_eq (lv2 := [(3, .int (nI zi)), (2, .ref (q 26)), (1, .ref (u 0)), (0, .ref (gA g 5))]) (st2 := [.int ((pM_mixed (g.2.2.2.2 (nI (zi + 1)).toNatClampNeg) (g.2.2.2.2 (nI (zi + 2)).toNatClampNeg) (g.2.2.2.2 (nI (zi + 3)).toNatClampNeg) zS).1), .int ((pM_mixed (g.2.2.2.2 (nI (zi + 1)).toNatClampNeg) (g.2.2.2.2 (nI (zi + 2)).toNatClampNeg) (g.2.2.2.2 (nI (zi + 3)).toNatClampNeg) zS).1)]) (ws2 := wS g q S9 ++ w1) rfl rfl rfl ?_
  refine j_perm (w1 ++ wS g q S9) List.perm_append_comm ?_
  refine j_icmp_eq 932 1128 dL_law_929 rfl rfl (fun _ => ?_) (fun hne => absurd rfl hne)
  refine j_widen (kk + 10) (jj + 23392) (by omega) (by omega) ?_
  exact cont S9 w1 (RI_Gq (RI_mixed hI (g.2.2.2.2 (nI (zi + 1)).toNatClampNeg) (g.2.2.2.2 (nI (zi + 2)).toNatClampNeg) (g.2.2.2.2 (nI (zi + 3)).toNatClampNeg)) hG) (cR_Gq (RI_mixed hI (g.2.2.2.2 (nI (zi + 1)).toNatClampNeg) (g.2.2.2.2 (nI (zi + 2)).toNatClampNeg) (g.2.2.2.2 (nI (zi + 3)).toNatClampNeg)) hG hC2)
set_option maxRecDepth 20000 in
theorem lw_c22 (g : gG) (nm : String) (u q : Nat → Nat) (zS : RS) (zc : va_W) (zi kk jj : Nat) (hi : zi + 6 ≤ g.2.2.2.1) (hL : g.2.2.2.1 ≤ 384) (hI : RI zS) (hC : cR g u zS zc) (hk : kk + 10 ≤ 600000) (hj : jj + 23392 ≤ 7302250) (cont : ∀ (S2 : RS) (z2 : va_W), RI S2 → cR g u S2 z2 → gJ g (mLn nm) 60 600000 7302250 (fun k' j' rv ws' => k' ≤ 600000 ∧ j' ≤ 7302250 ∧ rv = some (.int 1)) (kk + 10) (jj + 23392) 1128 [(3, .int (nI zi)), (2, .ref (q 26)), (1, .ref (u 0)), (0, .ref (gA g 5))] [] (z2 ++ wS g q S2)) : gJ g (mLn nm) 60 600000 7302250 (fun k' j' rv ws' => k' ≤ 600000 ∧ j' ≤ 7302250 ∧ rv = some (.int 1)) kk jj 934 [(3, .int (nI zi)), (2, .ref (q 26)), (1, .ref (u 0)), (0, .ref (gA g 5))] [] (zc ++ wS g q zS) := by
  refine j_aload_n 935 dL_law_934 rfl 2 rfl ?_
  refine j_aload_n 936 dL_law_935 rfl 3 rfl ?_
  refine j_iload_n 937 dL_law_936 rfl 0 rfl ?_
  refine j_iconst (v := (1 : Int32)) 938 dL_law_937 rfl (by decide) ?_
  refine j_iaddN zi 1 939 dL_law_938 rfl ?_
  refine j_sld 940 dL_law_939 rfl (vp_in_nI (by omega) (by omega)) ?_
  obtain ⟨zfs, zmm⟩ := cR_mem hC
  refine j_callVP (As := [.int (g.2.2.2.2 (nI (zi + 1)).toNatClampNeg)]) (rest := []) (wc := zc) (wr := wS g q zS) 943 (k_image g u zS zc (g.2.2.2.2 (nI (zi + 1)).toNatClampNeg) hI hC) dL_law_940 rfl cv_L_110 rfl rfl zmm rfl (gLe rfl) (gLe rfl) (by omega) (by omega) (fun rv w1 hp => ?_)
  obtain ⟨rfl, hC2⟩ := hp
  refine j_eq (lv2 := [(3, .int (nI zi)), (2, .ref (q 26)), (1, .ref (u 0)), (0, .ref (gA g 5))]) (st2 := [.int ((pM_image (g.2.2.2.2 (nI (zi + 1)).toNatClampNeg) zS).1)]) (ws2 := w1 ++ wS g q zS) rfl rfl rfl ?_
  refine j_aload_n 944 dL_law_943 rfl 1 rfl ?_
  refine j_aload_n 945 dL_law_944 rfl 3 rfl ?_
  refine j_iload_n 946 dL_law_945 rfl 0 rfl ?_
  refine j_iconst (v := (1 : Int32)) 947 dL_law_946 rfl (by decide) ?_
  refine j_iaddN zi 1 948 dL_law_947 rfl ?_
  refine j_sld 949 dL_law_948 rfl (vp_in_nI (by omega) (by omega)) ?_
  refine j_perm (wS g q zS ++ w1) List.perm_append_comm ?_
  refine j_callVP (As := [.int (g.2.2.2.2 (nI (zi + 1)).toNatClampNeg)]) (rest := [.int ((pM_image (g.2.2.2.2 (nI (zi + 1)).toNatClampNeg) zS).1)]) (wc := wS g q zS) (wr := w1) 952 (c_X6_image g q zS.1 zS.2.1 zS.2.2.1 zS.2.2.2 (g.2.2.2.2 (nI (zi + 1)).toNatClampNeg) hI) dL_law_949 rfl cv_L_113 rfl rfl (List.mem_cons_self (l := (wS g q zS).tail)) rfl (gLe rfl) (gLe rfl) (by omega) (by omega) (fun rv w2 hp => ?_)
  obtain ⟨rfl, rfl⟩ := hp
  refine j_eq (lv2 := [(3, .int (nI zi)), (2, .ref (q 26)), (1, .ref (u 0)), (0, .ref (gA g 5))]) (st2 := [.int ((pM_image (g.2.2.2.2 (nI (zi + 1)).toNatClampNeg) zS).1), .int ((pM_image (g.2.2.2.2 (nI (zi + 1)).toNatClampNeg) zS).1)]) (ws2 := wS g q (pM_image (g.2.2.2.2 (nI (zi + 1)).toNatClampNeg) zS).2 ++ w1) rfl rfl rfl ?_
  refine j_perm (w1 ++ wS g q (pM_image (g.2.2.2.2 (nI (zi + 1)).toNatClampNeg) zS).2) List.perm_append_comm ?_
  refine j_icmp_eq 955 1128 dL_law_952 rfl rfl (fun _ => ?_) (fun hne => absurd rfl hne)
  refine j_widen (kk + 10) (jj + 23392) (by omega) (by omega) ?_
  exact cont (pM_image (g.2.2.2.2 (nI (zi + 1)).toNatClampNeg) zS).2 w1 (RI_image hI (g.2.2.2.2 (nI (zi + 1)).toNatClampNeg)) hC2
set_option maxRecDepth 20000 in
theorem lw_c23 (g : gG) (nm : String) (u q : Nat → Nat) (zS : RS) (zc : va_W) (zi kk jj : Nat) (hi : zi + 6 ≤ g.2.2.2.1) (hL : g.2.2.2.1 ≤ 384) (hI : RI zS) (hC : cR g u zS zc) (hk : kk + 10 ≤ 600000) (hj : jj + 23392 ≤ 7302250) (cont : ∀ (S2 : RS) (z2 : va_W), RI S2 → cR g u S2 z2 → gJ g (mLn nm) 60 600000 7302250 (fun k' j' rv ws' => k' ≤ 600000 ∧ j' ≤ 7302250 ∧ rv = some (.int 1)) (kk + 10) (jj + 23392) 1128 [(3, .int (nI zi)), (2, .ref (q 26)), (1, .ref (u 0)), (0, .ref (gA g 5))] [] (z2 ++ wS g q S2)) : gJ g (mLn nm) 60 600000 7302250 (fun k' j' rv ws' => k' ≤ 600000 ∧ j' ≤ 7302250 ∧ rv = some (.int 1)) kk jj 957 [(3, .int (nI zi)), (2, .ref (q 26)), (1, .ref (u 0)), (0, .ref (gA g 5))] [] (zc ++ wS g q zS) := by
  refine j_aload_n 958 dL_law_957 rfl 2 rfl ?_
  refine j_aload_n 959 dL_law_958 rfl 3 rfl ?_
  refine j_iload_n 960 dL_law_959 rfl 0 rfl ?_
  refine j_iconst (v := (1 : Int32)) 961 dL_law_960 rfl (by decide) ?_
  refine j_iaddN zi 1 962 dL_law_961 rfl ?_
  refine j_sld 963 dL_law_962 rfl (vp_in_nI (by omega) (by omega)) ?_
  obtain ⟨zfs, zmm⟩ := cR_mem hC
  refine j_callVP (As := [.int (g.2.2.2.2 (nI (zi + 1)).toNatClampNeg)]) (rest := []) (wc := zc) (wr := wS g q zS) 966 (k_restore g u zS zc (g.2.2.2.2 (nI (zi + 1)).toNatClampNeg) hI hC) dL_law_963 rfl cv_L_114 rfl rfl zmm rfl (gLe rfl) (gLe rfl) (by omega) (by omega) (fun rv w1 hp => ?_)
  obtain ⟨rfl, hC2⟩ := hp
  refine j_eq (lv2 := [(3, .int (nI zi)), (2, .ref (q 26)), (1, .ref (u 0)), (0, .ref (gA g 5))]) (st2 := [.int ((pM_restore (g.2.2.2.2 (nI (zi + 1)).toNatClampNeg) zS).1)]) (ws2 := w1 ++ wS g q zS) rfl rfl rfl ?_
  refine j_aload_n 967 dL_law_966 rfl 1 rfl ?_
  refine j_aload_n 968 dL_law_967 rfl 3 rfl ?_
  refine j_iload_n 969 dL_law_968 rfl 0 rfl ?_
  refine j_iconst (v := (1 : Int32)) 970 dL_law_969 rfl (by decide) ?_
  refine j_iaddN zi 1 971 dL_law_970 rfl ?_
  refine j_sld 972 dL_law_971 rfl (vp_in_nI (by omega) (by omega)) ?_
  refine j_perm (wS g q zS ++ w1) List.perm_append_comm ?_
  refine j_callVP (As := [.int (g.2.2.2.2 (nI (zi + 1)).toNatClampNeg)]) (rest := [.int ((pM_restore (g.2.2.2.2 (nI (zi + 1)).toNatClampNeg) zS).1)]) (wc := wS g q zS) (wr := w1) 975 (c_X6_restore g q zS.1 zS.2.1 zS.2.2.1 zS.2.2.2 (g.2.2.2.2 (nI (zi + 1)).toNatClampNeg) hI) dL_law_972 rfl cv_L_117 rfl rfl (List.mem_cons_self (l := (wS g q zS).tail)) rfl (gLe rfl) (gLe rfl) (by omega) (by omega) (fun rv w2 hp => ?_)
  obtain ⟨rfl, rfl⟩ := hp
  refine j_eq (lv2 := [(3, .int (nI zi)), (2, .ref (q 26)), (1, .ref (u 0)), (0, .ref (gA g 5))]) (st2 := [.int ((pM_restore (g.2.2.2.2 (nI (zi + 1)).toNatClampNeg) zS).1), .int ((pM_restore (g.2.2.2.2 (nI (zi + 1)).toNatClampNeg) zS).1)]) (ws2 := wS g q (pM_restore (g.2.2.2.2 (nI (zi + 1)).toNatClampNeg) zS).2 ++ w1) rfl rfl rfl ?_
  refine j_perm (w1 ++ wS g q (pM_restore (g.2.2.2.2 (nI (zi + 1)).toNatClampNeg) zS).2) List.perm_append_comm ?_
  refine j_icmp_eq 978 1128 dL_law_975 rfl rfl (fun _ => ?_) (fun hne => absurd rfl hne)
  refine j_widen (kk + 10) (jj + 23392) (by omega) (by omega) ?_
  exact cont (pM_restore (g.2.2.2.2 (nI (zi + 1)).toNatClampNeg) zS).2 w1 (RI_restore hI (g.2.2.2.2 (nI (zi + 1)).toNatClampNeg)) hC2
set_option maxRecDepth 20000 in
theorem lw_c24 (g : gG) (nm : String) (u q : Nat → Nat) (zS : RS) (zc : va_W) (zi kk jj : Nat) (hi : zi + 6 ≤ g.2.2.2.1) (hL : g.2.2.2.1 ≤ 384) (hI : RI zS) (hC : cR g u zS zc) (hk : kk + 10 ≤ 600000) (hj : jj + 23392 ≤ 7302250) (cont : ∀ (S2 : RS) (z2 : va_W), RI S2 → cR g u S2 z2 → gJ g (mLn nm) 60 600000 7302250 (fun k' j' rv ws' => k' ≤ 600000 ∧ j' ≤ 7302250 ∧ rv = some (.int 1)) (kk + 10) (jj + 23392) 1128 [(3, .int (nI zi)), (2, .ref (q 26)), (1, .ref (u 0)), (0, .ref (gA g 5))] [] (z2 ++ wS g q S2)) : gJ g (mLn nm) 60 600000 7302250 (fun k' j' rv ws' => k' ≤ 600000 ∧ j' ≤ 7302250 ∧ rv = some (.int 1)) kk jj 980 [(3, .int (nI zi)), (2, .ref (q 26)), (1, .ref (u 0)), (0, .ref (gA g 5))] [] (zc ++ wS g q zS) := by
  refine j_aload_n 981 dL_law_980 rfl 2 rfl ?_
  refine j_aload_n 982 dL_law_981 rfl 3 rfl ?_
  refine j_iload_n 983 dL_law_982 rfl 0 rfl ?_
  refine j_iconst (v := (1 : Int32)) 984 dL_law_983 rfl (by decide) ?_
  refine j_iaddN zi 1 985 dL_law_984 rfl ?_
  refine j_sld 986 dL_law_985 rfl (vp_in_nI (by omega) (by omega)) ?_
  obtain ⟨zfs, zmm⟩ := cR_mem hC
  refine j_callVP (As := [.int (g.2.2.2.2 (nI (zi + 1)).toNatClampNeg)]) (rest := []) (wc := zc) (wr := wS g q zS) 989 (k_kind g u zS zc (g.2.2.2.2 (nI (zi + 1)).toNatClampNeg) hI hC) dL_law_986 rfl cv_L_118 rfl rfl zmm rfl (gLe rfl) (gLe rfl) (by omega) (by omega) (fun rv w1 hp => ?_)
  obtain ⟨rfl, hC2⟩ := hp
  refine j_eq (lv2 := [(3, .int (nI zi)), (2, .ref (q 26)), (1, .ref (u 0)), (0, .ref (gA g 5))]) (st2 := [.int ((pM_kind (g.2.2.2.2 (nI (zi + 1)).toNatClampNeg) zS).1)]) (ws2 := w1 ++ wS g q zS) rfl rfl rfl ?_
  refine j_aload_n 990 dL_law_989 rfl 1 rfl ?_
  refine j_aload_n 991 dL_law_990 rfl 3 rfl ?_
  refine j_iload_n 992 dL_law_991 rfl 0 rfl ?_
  refine j_iconst (v := (1 : Int32)) 993 dL_law_992 rfl (by decide) ?_
  refine j_iaddN zi 1 994 dL_law_993 rfl ?_
  refine j_sld 995 dL_law_994 rfl (vp_in_nI (by omega) (by omega)) ?_
  refine j_perm (wS g q zS ++ w1) List.perm_append_comm ?_
  refine j_callVP (As := [.int (g.2.2.2.2 (nI (zi + 1)).toNatClampNeg)]) (rest := [.int ((pM_kind (g.2.2.2.2 (nI (zi + 1)).toNatClampNeg) zS).1)]) (wc := wS g q zS) (wr := w1) 998 (c_X6_kind g q zS.1 zS.2.1 zS.2.2.1 zS.2.2.2 (g.2.2.2.2 (nI (zi + 1)).toNatClampNeg) hI) dL_law_995 rfl cv_L_121 rfl rfl (List.mem_cons_self (l := (wS g q zS).tail)) rfl (gLe rfl) (gLe rfl) (by omega) (by omega) (fun rv w2 hp => ?_)
  obtain ⟨rfl, rfl⟩ := hp
  refine j_eq (lv2 := [(3, .int (nI zi)), (2, .ref (q 26)), (1, .ref (u 0)), (0, .ref (gA g 5))]) (st2 := [.int ((pM_kind (g.2.2.2.2 (nI (zi + 1)).toNatClampNeg) zS).1), .int ((pM_kind (g.2.2.2.2 (nI (zi + 1)).toNatClampNeg) zS).1)]) (ws2 := wS g q (pM_kind (g.2.2.2.2 (nI (zi + 1)).toNatClampNeg) zS).2 ++ w1) rfl rfl rfl ?_
  refine j_perm (w1 ++ wS g q (pM_kind (g.2.2.2.2 (nI (zi + 1)).toNatClampNeg) zS).2) List.perm_append_comm ?_
  refine j_icmp_eq 1001 1128 dL_law_998 rfl rfl (fun _ => ?_) (fun hne => absurd rfl hne)
  refine j_widen (kk + 10) (jj + 23392) (by omega) (by omega) ?_
  exact cont (pM_kind (g.2.2.2.2 (nI (zi + 1)).toNatClampNeg) zS).2 w1 (RI_kind hI (g.2.2.2.2 (nI (zi + 1)).toNatClampNeg)) hC2
set_option maxRecDepth 20000 in
theorem lw_c25 (g : gG) (nm : String) (u q : Nat → Nat) (zS : RS) (zc : va_W) (zi kk jj : Nat) (hi : zi + 6 ≤ g.2.2.2.1) (hL : g.2.2.2.1 ≤ 384) (hI : RI zS) (hC : cR g u zS zc) (hk : kk + 10 ≤ 600000) (hj : jj + 23392 ≤ 7302250) (cont : ∀ (S2 : RS) (z2 : va_W), RI S2 → cR g u S2 z2 → gJ g (mLn nm) 60 600000 7302250 (fun k' j' rv ws' => k' ≤ 600000 ∧ j' ≤ 7302250 ∧ rv = some (.int 1)) (kk + 10) (jj + 23392) 1128 [(3, .int (nI zi)), (2, .ref (q 26)), (1, .ref (u 0)), (0, .ref (gA g 5))] [] (z2 ++ wS g q S2)) : gJ g (mLn nm) 60 600000 7302250 (fun k' j' rv ws' => k' ≤ 600000 ∧ j' ≤ 7302250 ∧ rv = some (.int 1)) kk jj 1003 [(3, .int (nI zi)), (2, .ref (q 26)), (1, .ref (u 0)), (0, .ref (gA g 5))] [] (zc ++ wS g q zS) := by
  refine j_aload_n 1004 dL_law_1003 rfl 2 rfl ?_
  refine j_aload_n 1005 dL_law_1004 rfl 3 rfl ?_
  refine j_iload_n 1006 dL_law_1005 rfl 0 rfl ?_
  refine j_iconst (v := (1 : Int32)) 1007 dL_law_1006 rfl (by decide) ?_
  refine j_iaddN zi 1 1008 dL_law_1007 rfl ?_
  refine j_sld 1009 dL_law_1008 rfl (vp_in_nI (by omega) (by omega)) ?_
  refine j_aload_n 1010 dL_law_1009 rfl 3 rfl ?_
  refine j_iload_n 1011 dL_law_1010 rfl 0 rfl ?_
  refine j_iconst (v := (2 : Int32)) 1012 dL_law_1011 rfl (by decide) ?_
  refine j_iaddN zi 2 1013 dL_law_1012 rfl ?_
  refine j_sld 1014 dL_law_1013 rfl (vp_in_nI (by omega) (by omega)) ?_
  obtain ⟨zfs, zmm⟩ := cR_mem hC
  refine j_callVP (As := [.int (g.2.2.2.2 (nI (zi + 1)).toNatClampNeg), .int (g.2.2.2.2 (nI (zi + 2)).toNatClampNeg)]) (rest := []) (wc := zc) (wr := wS g q zS) 1017 (k_as g u zS zc (g.2.2.2.2 (nI (zi + 1)).toNatClampNeg) (g.2.2.2.2 (nI (zi + 2)).toNatClampNeg) hI hC) dL_law_1014 rfl cv_L_122 rfl rfl zmm rfl (gLe rfl) (gLe rfl) (by omega) (by omega) (fun rv w1 hp => ?_)
  obtain ⟨rfl, hC2⟩ := hp
  refine j_eq (lv2 := [(3, .int (nI zi)), (2, .ref (q 26)), (1, .ref (u 0)), (0, .ref (gA g 5))]) (st2 := [.int ((pM_as (g.2.2.2.2 (nI (zi + 1)).toNatClampNeg) (g.2.2.2.2 (nI (zi + 2)).toNatClampNeg) zS).1)]) (ws2 := w1 ++ wS g q zS) rfl rfl rfl ?_
  refine j_aload_n 1018 dL_law_1017 rfl 1 rfl ?_
  refine j_aload_n 1019 dL_law_1018 rfl 3 rfl ?_
  refine j_iload_n 1020 dL_law_1019 rfl 0 rfl ?_
  refine j_iconst (v := (1 : Int32)) 1021 dL_law_1020 rfl (by decide) ?_
  refine j_iaddN zi 1 1022 dL_law_1021 rfl ?_
  refine j_sld 1023 dL_law_1022 rfl (vp_in_nI (by omega) (by omega)) ?_
  refine j_aload_n 1024 dL_law_1023 rfl 3 rfl ?_
  refine j_iload_n 1025 dL_law_1024 rfl 0 rfl ?_
  refine j_iconst (v := (2 : Int32)) 1026 dL_law_1025 rfl (by decide) ?_
  refine j_iaddN zi 2 1027 dL_law_1026 rfl ?_
  refine j_sld 1028 dL_law_1027 rfl (vp_in_nI (by omega) (by omega)) ?_
  refine j_perm (wS g q zS ++ w1) List.perm_append_comm ?_
  refine j_callVP (As := [.int (g.2.2.2.2 (nI (zi + 1)).toNatClampNeg), .int (g.2.2.2.2 (nI (zi + 2)).toNatClampNeg)]) (rest := [.int ((pM_as (g.2.2.2.2 (nI (zi + 1)).toNatClampNeg) (g.2.2.2.2 (nI (zi + 2)).toNatClampNeg) zS).1)]) (wc := wS g q zS) (wr := w1) 1031 (c_X6_as g q zS.1 zS.2.1 zS.2.2.1 zS.2.2.2 (g.2.2.2.2 (nI (zi + 1)).toNatClampNeg) (g.2.2.2.2 (nI (zi + 2)).toNatClampNeg) hI) dL_law_1028 rfl cv_L_125 rfl rfl (List.mem_cons_self (l := (wS g q zS).tail)) rfl (gLe rfl) (gLe rfl) (by omega) (by omega) (fun rv w2 hp => ?_)
  obtain ⟨rfl, rfl⟩ := hp
  refine j_eq (lv2 := [(3, .int (nI zi)), (2, .ref (q 26)), (1, .ref (u 0)), (0, .ref (gA g 5))]) (st2 := [.int ((pM_as (g.2.2.2.2 (nI (zi + 1)).toNatClampNeg) (g.2.2.2.2 (nI (zi + 2)).toNatClampNeg) zS).1), .int ((pM_as (g.2.2.2.2 (nI (zi + 1)).toNatClampNeg) (g.2.2.2.2 (nI (zi + 2)).toNatClampNeg) zS).1)]) (ws2 := wS g q (pM_as (g.2.2.2.2 (nI (zi + 1)).toNatClampNeg) (g.2.2.2.2 (nI (zi + 2)).toNatClampNeg) zS).2 ++ w1) rfl rfl rfl ?_
  refine j_perm (w1 ++ wS g q (pM_as (g.2.2.2.2 (nI (zi + 1)).toNatClampNeg) (g.2.2.2.2 (nI (zi + 2)).toNatClampNeg) zS).2) List.perm_append_comm ?_
  refine j_icmp_eq 1034 1128 dL_law_1031 rfl rfl (fun _ => ?_) (fun hne => absurd rfl hne)
  refine j_widen (kk + 10) (jj + 23392) (by omega) (by omega) ?_
  exact cont (pM_as (g.2.2.2.2 (nI (zi + 1)).toNatClampNeg) (g.2.2.2.2 (nI (zi + 2)).toNatClampNeg) zS).2 w1 (RI_as hI (g.2.2.2.2 (nI (zi + 1)).toNatClampNeg) (g.2.2.2.2 (nI (zi + 2)).toNatClampNeg)) hC2
set_option maxRecDepth 20000 in
theorem lw_c26 (g : gG) (nm : String) (u q : Nat → Nat) (zS : RS) (zc : va_W) (zi kk jj : Nat) (hi : zi + 6 ≤ g.2.2.2.1) (hL : g.2.2.2.1 ≤ 384) (hI : RI zS) (hC : cR g u zS zc) (hk : kk + 10 ≤ 600000) (hj : jj + 23392 ≤ 7302250) (cont : ∀ (S2 : RS) (z2 : va_W), RI S2 → cR g u S2 z2 → gJ g (mLn nm) 60 600000 7302250 (fun k' j' rv ws' => k' ≤ 600000 ∧ j' ≤ 7302250 ∧ rv = some (.int 1)) (kk + 10) (jj + 23392) 1128 [(3, .int (nI zi)), (2, .ref (q 26)), (1, .ref (u 0)), (0, .ref (gA g 5))] [] (z2 ++ wS g q S2)) : gJ g (mLn nm) 60 600000 7302250 (fun k' j' rv ws' => k' ≤ 600000 ∧ j' ≤ 7302250 ∧ rv = some (.int 1)) kk jj 1036 [(3, .int (nI zi)), (2, .ref (q 26)), (1, .ref (u 0)), (0, .ref (gA g 5))] [] (zc ++ wS g q zS) := by
  refine j_aload_n 1037 dL_law_1036 rfl 2 rfl ?_
  refine j_aload_n 1038 dL_law_1037 rfl 3 rfl ?_
  refine j_iload_n 1039 dL_law_1038 rfl 0 rfl ?_
  refine j_iconst (v := (1 : Int32)) 1040 dL_law_1039 rfl (by decide) ?_
  refine j_iaddN zi 1 1041 dL_law_1040 rfl ?_
  refine j_sld 1042 dL_law_1041 rfl (vp_in_nI (by omega) (by omega)) ?_
  refine j_aload_n 1043 dL_law_1042 rfl 3 rfl ?_
  refine j_iload_n 1044 dL_law_1043 rfl 0 rfl ?_
  refine j_iconst (v := (2 : Int32)) 1045 dL_law_1044 rfl (by decide) ?_
  refine j_iaddN zi 2 1046 dL_law_1045 rfl ?_
  refine j_sld 1047 dL_law_1046 rfl (vp_in_nI (by omega) (by omega)) ?_
  obtain ⟨zfs, zmm⟩ := cR_mem hC
  refine j_callVP (As := [.int (g.2.2.2.2 (nI (zi + 1)).toNatClampNeg), .int (g.2.2.2.2 (nI (zi + 2)).toNatClampNeg)]) (rest := []) (wc := zc) (wr := wS g q zS) 1050 (k_ask g u zS zc (g.2.2.2.2 (nI (zi + 1)).toNatClampNeg) (g.2.2.2.2 (nI (zi + 2)).toNatClampNeg) hI hC) dL_law_1047 rfl cv_L_126 rfl rfl zmm rfl (gLe rfl) (gLe rfl) (by omega) (by omega) (fun rv w1 hp => ?_)
  obtain ⟨rfl, hC2⟩ := hp
  refine j_eq (lv2 := [(3, .int (nI zi)), (2, .ref (q 26)), (1, .ref (u 0)), (0, .ref (gA g 5))]) (st2 := [.int ((pM_ask (g.2.2.2.2 (nI (zi + 1)).toNatClampNeg) (g.2.2.2.2 (nI (zi + 2)).toNatClampNeg) zS).1)]) (ws2 := w1 ++ wS g q zS) rfl rfl rfl ?_
  refine j_aload_n 1051 dL_law_1050 rfl 1 rfl ?_
  refine j_aload_n 1052 dL_law_1051 rfl 3 rfl ?_
  refine j_iload_n 1053 dL_law_1052 rfl 0 rfl ?_
  refine j_iconst (v := (1 : Int32)) 1054 dL_law_1053 rfl (by decide) ?_
  refine j_iaddN zi 1 1055 dL_law_1054 rfl ?_
  refine j_sld 1056 dL_law_1055 rfl (vp_in_nI (by omega) (by omega)) ?_
  refine j_aload_n 1057 dL_law_1056 rfl 3 rfl ?_
  refine j_iload_n 1058 dL_law_1057 rfl 0 rfl ?_
  refine j_iconst (v := (2 : Int32)) 1059 dL_law_1058 rfl (by decide) ?_
  refine j_iaddN zi 2 1060 dL_law_1059 rfl ?_
  refine j_sld 1061 dL_law_1060 rfl (vp_in_nI (by omega) (by omega)) ?_
  refine j_perm (wS g q zS ++ w1) List.perm_append_comm ?_
  refine j_callVP (As := [.int (g.2.2.2.2 (nI (zi + 1)).toNatClampNeg), .int (g.2.2.2.2 (nI (zi + 2)).toNatClampNeg)]) (rest := [.int ((pM_ask (g.2.2.2.2 (nI (zi + 1)).toNatClampNeg) (g.2.2.2.2 (nI (zi + 2)).toNatClampNeg) zS).1)]) (wc := wS g q zS) (wr := w1) 1064 (c_X6_ask g q zS.1 zS.2.1 zS.2.2.1 zS.2.2.2 (g.2.2.2.2 (nI (zi + 1)).toNatClampNeg) (g.2.2.2.2 (nI (zi + 2)).toNatClampNeg) hI) dL_law_1061 rfl cv_L_129 rfl rfl (List.mem_cons_self (l := (wS g q zS).tail)) rfl (gLe rfl) (gLe rfl) (by omega) (by omega) (fun rv w2 hp => ?_)
  obtain ⟨S9, hG, rfl, rfl⟩ := hp
  refine j_eq (lv2 := [(3, .int (nI zi)), (2, .ref (q 26)), (1, .ref (u 0)), (0, .ref (gA g 5))]) (st2 := [.int ((pM_ask (g.2.2.2.2 (nI (zi + 1)).toNatClampNeg) (g.2.2.2.2 (nI (zi + 2)).toNatClampNeg) zS).1), .int ((pM_ask (g.2.2.2.2 (nI (zi + 1)).toNatClampNeg) (g.2.2.2.2 (nI (zi + 2)).toNatClampNeg) zS).1)]) (ws2 := wS g q S9 ++ w1) rfl rfl rfl ?_
  refine j_perm (w1 ++ wS g q S9) List.perm_append_comm ?_
  refine j_icmp_eq 1067 1128 dL_law_1064 rfl rfl (fun _ => ?_) (fun hne => absurd rfl hne)
  refine j_widen (kk + 10) (jj + 23392) (by omega) (by omega) ?_
  exact cont S9 w1 (RI_Gq (RI_ask hI (g.2.2.2.2 (nI (zi + 1)).toNatClampNeg) (g.2.2.2.2 (nI (zi + 2)).toNatClampNeg)) hG) (cR_Gq (RI_ask hI (g.2.2.2.2 (nI (zi + 1)).toNatClampNeg) (g.2.2.2.2 (nI (zi + 2)).toNatClampNeg)) hG hC2)
set_option maxRecDepth 20000 in
theorem lw_c27 (g : gG) (nm : String) (u q : Nat → Nat) (zS : RS) (zc : va_W) (zi kk jj : Nat) (hi : zi + 6 ≤ g.2.2.2.1) (hL : g.2.2.2.1 ≤ 384) (hI : RI zS) (hC : cR g u zS zc) (hk : kk + 10 ≤ 600000) (hj : jj + 23392 ≤ 7302250) (cont : ∀ (S2 : RS) (z2 : va_W), RI S2 → cR g u S2 z2 → gJ g (mLn nm) 60 600000 7302250 (fun k' j' rv ws' => k' ≤ 600000 ∧ j' ≤ 7302250 ∧ rv = some (.int 1)) (kk + 10) (jj + 23392) 1128 [(3, .int (nI zi)), (2, .ref (q 26)), (1, .ref (u 0)), (0, .ref (gA g 5))] [] (z2 ++ wS g q S2)) : gJ g (mLn nm) 60 600000 7302250 (fun k' j' rv ws' => k' ≤ 600000 ∧ j' ≤ 7302250 ∧ rv = some (.int 1)) kk jj 1069 [(3, .int (nI zi)), (2, .ref (q 26)), (1, .ref (u 0)), (0, .ref (gA g 5))] [] (zc ++ wS g q zS) := by
  refine j_aload_n 1070 dL_law_1069 rfl 2 rfl ?_
  refine j_aload_n 1071 dL_law_1070 rfl 3 rfl ?_
  refine j_iload_n 1072 dL_law_1071 rfl 0 rfl ?_
  refine j_iconst (v := (1 : Int32)) 1073 dL_law_1072 rfl (by decide) ?_
  refine j_iaddN zi 1 1074 dL_law_1073 rfl ?_
  refine j_sld 1075 dL_law_1074 rfl (vp_in_nI (by omega) (by omega)) ?_
  obtain ⟨zfs, zmm⟩ := cR_mem hC
  refine j_callVP (As := [.int (g.2.2.2.2 (nI (zi + 1)).toNatClampNeg)]) (rest := []) (wc := zc) (wr := wS g q zS) 1078 (k_trace g u zS zc (g.2.2.2.2 (nI (zi + 1)).toNatClampNeg) hI hC) dL_law_1075 rfl cv_L_130 rfl rfl zmm rfl (gLe rfl) (gLe rfl) (by omega) (by omega) (fun rv w1 hp => ?_)
  obtain ⟨rfl, hC2⟩ := hp
  refine j_eq (lv2 := [(3, .int (nI zi)), (2, .ref (q 26)), (1, .ref (u 0)), (0, .ref (gA g 5))]) (st2 := [.int ((pM_trace (g.2.2.2.2 (nI (zi + 1)).toNatClampNeg) zS).1)]) (ws2 := w1 ++ wS g q zS) rfl rfl rfl ?_
  refine j_aload_n 1079 dL_law_1078 rfl 1 rfl ?_
  refine j_aload_n 1080 dL_law_1079 rfl 3 rfl ?_
  refine j_iload_n 1081 dL_law_1080 rfl 0 rfl ?_
  refine j_iconst (v := (1 : Int32)) 1082 dL_law_1081 rfl (by decide) ?_
  refine j_iaddN zi 1 1083 dL_law_1082 rfl ?_
  refine j_sld 1084 dL_law_1083 rfl (vp_in_nI (by omega) (by omega)) ?_
  refine j_perm (wS g q zS ++ w1) List.perm_append_comm ?_
  refine j_callVP (As := [.int (g.2.2.2.2 (nI (zi + 1)).toNatClampNeg)]) (rest := [.int ((pM_trace (g.2.2.2.2 (nI (zi + 1)).toNatClampNeg) zS).1)]) (wc := wS g q zS) (wr := w1) 1087 (c_X6_trace g q zS.1 zS.2.1 zS.2.2.1 zS.2.2.2 (g.2.2.2.2 (nI (zi + 1)).toNatClampNeg) hI) dL_law_1084 rfl cv_L_133 rfl rfl (List.mem_cons_self (l := (wS g q zS).tail)) rfl (gLe rfl) (gLe rfl) (by omega) (by omega) (fun rv w2 hp => ?_)
  obtain ⟨rfl, rfl⟩ := hp
  refine j_eq (lv2 := [(3, .int (nI zi)), (2, .ref (q 26)), (1, .ref (u 0)), (0, .ref (gA g 5))]) (st2 := [.int ((pM_trace (g.2.2.2.2 (nI (zi + 1)).toNatClampNeg) zS).1), .int ((pM_trace (g.2.2.2.2 (nI (zi + 1)).toNatClampNeg) zS).1)]) (ws2 := wS g q (pM_trace (g.2.2.2.2 (nI (zi + 1)).toNatClampNeg) zS).2 ++ w1) rfl rfl rfl ?_
  refine j_perm (w1 ++ wS g q (pM_trace (g.2.2.2.2 (nI (zi + 1)).toNatClampNeg) zS).2) List.perm_append_comm ?_
  refine j_icmp_eq 1090 1128 dL_law_1087 rfl rfl (fun _ => ?_) (fun hne => absurd rfl hne)
  refine j_widen (kk + 10) (jj + 23392) (by omega) (by omega) ?_
  exact cont (pM_trace (g.2.2.2.2 (nI (zi + 1)).toNatClampNeg) zS).2 w1 (RI_trace hI (g.2.2.2.2 (nI (zi + 1)).toNatClampNeg)) hC2
set_option maxRecDepth 20000 in
theorem lw_c28 (g : gG) (nm : String) (u q : Nat → Nat) (zS : RS) (zc : va_W) (zi kk jj : Nat) (hi : zi + 6 ≤ g.2.2.2.1) (hL : g.2.2.2.1 ≤ 384) (hI : RI zS) (hC : cR g u zS zc) (hk : kk + 10 ≤ 600000) (hj : jj + 23392 ≤ 7302250) (cont : ∀ (S2 : RS) (z2 : va_W), RI S2 → cR g u S2 z2 → gJ g (mLn nm) 60 600000 7302250 (fun k' j' rv ws' => k' ≤ 600000 ∧ j' ≤ 7302250 ∧ rv = some (.int 1)) (kk + 10) (jj + 23392) 1128 [(3, .int (nI zi)), (2, .ref (q 26)), (1, .ref (u 0)), (0, .ref (gA g 5))] [] (z2 ++ wS g q S2)) : gJ g (mLn nm) 60 600000 7302250 (fun k' j' rv ws' => k' ≤ 600000 ∧ j' ≤ 7302250 ∧ rv = some (.int 1)) kk jj 1092 [(3, .int (nI zi)), (2, .ref (q 26)), (1, .ref (u 0)), (0, .ref (gA g 5))] [] (zc ++ wS g q zS) := by
  refine j_aload_n 1093 dL_law_1092 rfl 2 rfl ?_
  refine j_aload_n 1094 dL_law_1093 rfl 3 rfl ?_
  refine j_iload_n 1095 dL_law_1094 rfl 0 rfl ?_
  refine j_iconst (v := (1 : Int32)) 1096 dL_law_1095 rfl (by decide) ?_
  refine j_iaddN zi 1 1097 dL_law_1096 rfl ?_
  refine j_sld 1098 dL_law_1097 rfl (vp_in_nI (by omega) (by omega)) ?_
  obtain ⟨zfs, zmm⟩ := cR_mem hC
  refine j_callVP (As := [.int (g.2.2.2.2 (nI (zi + 1)).toNatClampNeg)]) (rest := []) (wc := zc) (wr := wS g q zS) 1101 (k_count g u zS zc (g.2.2.2.2 (nI (zi + 1)).toNatClampNeg) hI hC) dL_law_1098 rfl cv_L_134 rfl rfl zmm rfl (gLe rfl) (gLe rfl) (by omega) (by omega) (fun rv w1 hp => ?_)
  obtain ⟨rfl, hC2⟩ := hp
  refine j_eq (lv2 := [(3, .int (nI zi)), (2, .ref (q 26)), (1, .ref (u 0)), (0, .ref (gA g 5))]) (st2 := [.int ((pM_count (g.2.2.2.2 (nI (zi + 1)).toNatClampNeg) zS).1)]) (ws2 := w1 ++ wS g q zS) rfl rfl rfl ?_
  refine j_aload_n 1102 dL_law_1101 rfl 1 rfl ?_
  refine j_aload_n 1103 dL_law_1102 rfl 3 rfl ?_
  refine j_iload_n 1104 dL_law_1103 rfl 0 rfl ?_
  refine j_iconst (v := (1 : Int32)) 1105 dL_law_1104 rfl (by decide) ?_
  refine j_iaddN zi 1 1106 dL_law_1105 rfl ?_
  refine j_sld 1107 dL_law_1106 rfl (vp_in_nI (by omega) (by omega)) ?_
  refine j_perm (wS g q zS ++ w1) List.perm_append_comm ?_
  refine j_callVP (As := [.int (g.2.2.2.2 (nI (zi + 1)).toNatClampNeg)]) (rest := [.int ((pM_count (g.2.2.2.2 (nI (zi + 1)).toNatClampNeg) zS).1)]) (wc := wS g q zS) (wr := w1) 1110 (c_X6_count g q zS.1 zS.2.1 zS.2.2.1 zS.2.2.2 (g.2.2.2.2 (nI (zi + 1)).toNatClampNeg) hI) dL_law_1107 rfl cv_L_137 rfl rfl (List.mem_cons_self (l := (wS g q zS).tail)) rfl (gLe rfl) (gLe rfl) (by omega) (by omega) (fun rv w2 hp => ?_)
  obtain ⟨rfl, rfl⟩ := hp
  refine j_eq (lv2 := [(3, .int (nI zi)), (2, .ref (q 26)), (1, .ref (u 0)), (0, .ref (gA g 5))]) (st2 := [.int ((pM_count (g.2.2.2.2 (nI (zi + 1)).toNatClampNeg) zS).1), .int ((pM_count (g.2.2.2.2 (nI (zi + 1)).toNatClampNeg) zS).1)]) (ws2 := wS g q (pM_count (g.2.2.2.2 (nI (zi + 1)).toNatClampNeg) zS).2 ++ w1) rfl rfl rfl ?_
  refine j_perm (w1 ++ wS g q (pM_count (g.2.2.2.2 (nI (zi + 1)).toNatClampNeg) zS).2) List.perm_append_comm ?_
  refine j_icmp_eq 1113 1128 dL_law_1110 rfl rfl (fun _ => ?_) (fun hne => absurd rfl hne)
  refine j_widen (kk + 10) (jj + 23392) (by omega) (by omega) ?_
  exact cont (pM_count (g.2.2.2.2 (nI (zi + 1)).toNatClampNeg) zS).2 w1 hI hC2
set_option maxRecDepth 20000 in
theorem lw_c29 (g : gG) (nm : String) (u q : Nat → Nat) (zS : RS) (zc : va_W) (zi kk jj : Nat) (hi : zi + 6 ≤ g.2.2.2.1) (hL : g.2.2.2.1 ≤ 384) (hI : RI zS) (hC : cR g u zS zc) (hk : kk + 10 ≤ 600000) (hj : jj + 23392 ≤ 7302250) (cont : ∀ (S2 : RS) (z2 : va_W), RI S2 → cR g u S2 z2 → gJ g (mLn nm) 60 600000 7302250 (fun k' j' rv ws' => k' ≤ 600000 ∧ j' ≤ 7302250 ∧ rv = some (.int 1)) (kk + 10) (jj + 23392) 1128 [(3, .int (nI zi)), (2, .ref (q 26)), (1, .ref (u 0)), (0, .ref (gA g 5))] [] (z2 ++ wS g q S2)) : gJ g (mLn nm) 60 600000 7302250 (fun k' j' rv ws' => k' ≤ 600000 ∧ j' ≤ 7302250 ∧ rv = some (.int 1)) kk jj 1115 [(3, .int (nI zi)), (2, .ref (q 26)), (1, .ref (u 0)), (0, .ref (gA g 5))] [] (zc ++ wS g q zS) := by
  refine j_aload_n 1116 dL_law_1115 rfl 2 rfl ?_
  obtain ⟨zfs, zmm⟩ := cR_mem hC
  refine j_callVP (As := []) (rest := []) (wc := zc) (wr := wS g q zS) 1119 (k_status g u zS zc  hI hC) dL_law_1116 rfl cv_L_138 rfl rfl zmm rfl (gLe rfl) (gLe rfl) (by omega) (by omega) (fun rv w1 hp => ?_)
  obtain ⟨rfl, hC2⟩ := hp
  refine j_eq (lv2 := [(3, .int (nI zi)), (2, .ref (q 26)), (1, .ref (u 0)), (0, .ref (gA g 5))]) (st2 := [.int ((pM_status  zS).1)]) (ws2 := w1 ++ wS g q zS) rfl rfl rfl ?_
  refine j_aload_n 1120 dL_law_1119 rfl 1 rfl ?_
  refine j_perm (wS g q zS ++ w1) List.perm_append_comm ?_
  refine j_callVP (As := []) (rest := [.int ((pM_status  zS).1)]) (wc := wS g q zS) (wr := w1) 1123 (c_X6_status g q zS.1 zS.2.1 zS.2.2.1 zS.2.2.2  hI) dL_law_1120 rfl cv_L_141 rfl rfl (List.mem_cons_self (l := (wS g q zS).tail)) rfl (gLe rfl) (gLe rfl) (by omega) (by omega) (fun rv w2 hp => ?_)
  obtain ⟨rfl, rfl⟩ := hp
  refine j_eq (lv2 := [(3, .int (nI zi)), (2, .ref (q 26)), (1, .ref (u 0)), (0, .ref (gA g 5))]) (st2 := [.int ((pM_status  zS).1), .int ((pM_status  zS).1)]) (ws2 := wS g q (pM_status  zS).2 ++ w1) rfl rfl rfl ?_
  refine j_perm (w1 ++ wS g q (pM_status  zS).2) List.perm_append_comm ?_
  refine j_icmp_eq 1126 1128 dL_law_1123 rfl rfl (fun _ => ?_) (fun hne => absurd rfl hne)
  refine j_widen (kk + 10) (jj + 23392) (by omega) (by omega) ?_
  exact cont (pM_status  zS).2 w1 hI hC2
