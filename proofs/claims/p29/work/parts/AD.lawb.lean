set_option maxHeartbeats 4000000 in
theorem law_15 {l : Launch} {G : xG} {b L c : Nat} {xs : Nat → Int32} {m ye fi : Nat → Nat} {W Z Ro Co : Nat → Int32} {sp fa nb : Nat} {b1 b2 th1 ot1 dy1 so1 kn1 go1 : Nat → Nat} {n1 : Nat} {th2 ot2 dy2 so2 kn2 go2 : Nat → Nat} {n2 : Nat} {so3 xx3 yy3 tr3 : Nat → Nat} {n3 : Nat} {kd fo : Nat → Nat} {oJ oS : Option Nat} {h : List va_E} (hL : L ≤ 3072) (hi : 6 * c + 6 ≤ L) (Kn : LawK l G b L xs (c + 1)) (O : OKD m ye fi W Z Ro Co sp fa nb b1 b2 th1 ot1 dy1 so1 kn1 go1 n1 th2 ot2 dy2 so2 kn2 go2 n2 so3 xx3 yy3 tr3 n3 kd fo) (I : InvX G m ye fi W Z Ro Co sp fa nb b1 b2 th1 ot1 dy1 so1 kn1 go1 n1 th2 ot2 dy2 so2 kn2 go2 n2 so3 xx3 yy3 tr3 n3 kd fo c oJ oS h) (M : InvM G m ye fi W Z Ro Co sp fa nb b1 b2 th1 ot1 dy1 so1 kn1 go1 n1 th2 ot2 dy2 so2 kn2 go2 n2 so3 xx3 yy3 tr3 n3 kd fo h) : AW l G yL_law code 4 ret room_1 (xEl G b L xs) (fun below args s => lw_Z below args s) (125 + 6 * bO oJ + 10 * c) (28093 + 13430 * bO oJ + 2242 * c) 819 [(3, .int (nI (6 * c))), (2, .ref (G.1 + 88)), (1, .ref (G.1 + 0)), (0, .ref b)] [] h := by
  refine aw_aload_n 2 dL_law_819 rfl rfl ?_
  refine aw_aload_n 3 dL_law_820 rfl rfl ?_
  refine aw_iload_n 0 dL_law_821 rfl rfl ?_
  refine aw_iconst (1) dL_law_822 (by decide) ?_
  refine aw_iadd dL_law_823 ?_
  refine aw_sld (6 * c + 1) (nv_add (rfl) (rfl)) (by omega) (by omega) dL_law_824 ?_
  refine aw_if_eq 832 dL_law_825 (by decide) (fun c825 => ?_) (fun c825 => ?_)
  · refine aw_iconst (0) dL_law_832 (by decide) ?_
    refine aw_aload_n 3 dL_law_833 rfl rfl ?_
    refine aw_iload_n 0 dL_law_834 rfl rfl ?_
    refine aw_iconst (2) dL_law_835 (by decide) ?_
    refine aw_iadd dL_law_836 ?_
    refine aw_sld (6 * c + 2) (nv_add (rfl) (rfl)) (by omega) (by omega) dL_law_837 ?_
    refine aw_aload_n 3 dL_law_838 rfl rfl ?_
    refine aw_iload_n 0 dL_law_839 rfl rfl ?_
    refine aw_iconst (3) dL_law_840 (by decide) ?_
    refine aw_iadd dL_law_841 ?_
    refine aw_sld (6 * c + 3) (nv_add (rfl) (rfl)) (by omega) (by omega) dL_law_842 ?_
    have bJ := bO1 (o := oJ)
    obtain ⟨dd, mc, ms, oJ1, oS1, hd, hmc, hms, hA⟩ := LX_withdraw0 (l := l) (q0 := xs (6 * c + 2)) (k := xs (6 * c + 3)) O I (by omega)
    have bJ1 := bO1 (o := oJ1)
    refine aw_uV [.int 0, .int (xs (6 * c + 2)), .int (xs (6 * c + 3))] [] lL_78 vX8_withdraw mX8_withdraw dL_law_843 hA (InvX_0 I) rfl rfl rfl (Nat.le_of_ble_eq_true rfl) (by show _ + 1 ≤ 10 ∧ 8 + (5 + 11) + 40 * _ ≤ 394; omega) (by show _ ≤ 221190 ∧ _ ≤ 8438680; omega) rfl (fun r1 h1 q1 => ?_)
    obtain ⟨I1, k1, e1⟩ := q1
    have M1 := InvM_k M k1
    obtain ⟨fs, hf⟩ := InvM_0 M1
    refine aw_pop dL_law_846 rfl ?_
    refine aw_aload_n 1 dL_law_847 rfl rfl ?_
    refine aw_aload_n 3 dL_law_848 rfl rfl ?_
    refine aw_iload_n 0 dL_law_849 rfl rfl ?_
    refine aw_iconst (1) dL_law_850 (by decide) ?_
    refine aw_iadd dL_law_851 ?_
    refine aw_sld (6 * c + 1) (nv_add (rfl) (rfl)) (by omega) (by omega) dL_law_852 ?_
    refine aw_if_eq 860 dL_law_853 (by decide) (fun c853 => ?_) (fun c853 => absurd (c825) c853)
    refine aw_iconst (0) dL_law_860 (by decide) ?_
    refine aw_aload_n 3 dL_law_861 rfl rfl ?_
    refine aw_iload_n 0 dL_law_862 rfl rfl ?_
    refine aw_iconst (2) dL_law_863 (by decide) ?_
    refine aw_iadd dL_law_864 ?_
    refine aw_sld (6 * c + 2) (nv_add (rfl) (rfl)) (by omega) (by omega) dL_law_865 ?_
    refine aw_aload_n 3 dL_law_866 rfl rfl ?_
    refine aw_iload_n 0 dL_law_867 rfl rfl ?_
    refine aw_iconst (3) dL_law_868 (by decide) ?_
    refine aw_iadd dL_law_869 ?_
    refine aw_sld (6 * c + 3) (nv_add (rfl) (rfl)) (by omega) (by omega) dL_law_870 ?_
    refine aw_uV [.int 0, .int (xs (6 * c + 2)), .int (xs (6 * c + 3))] [] lL_82 vX9_withdraw mX9_withdraw dL_law_871 (LM_withdraw0 (l := l) (q0 := xs (6 * c + 2)) (k := xs (6 * c + 3)) O M1) hf rfl rfl rfl (Nat.le_of_ble_eq_true rfl) (by show _ + 1 ≤ 10 ∧ 8 + (5 + 11) + 40 * _ ≤ 394; omega) (by show _ ≤ 221190 ∧ _ ≤ 8438680; omega) rfl (fun r2 h2 q2 => ?_)
    obtain ⟨M2, k2, e2⟩ := q2
    have I2 := InvX_k I1 k2
    refine aw_pop dL_law_874 rfl ?_
    refine aw_goto 1343 dL_law_875 (by decide) ?_
    exact law_next Kn (OK_withdraw0 O) I2 M2 (by omega) (by omega)
  · refine aw_iconst (1) dL_law_828 (by decide) ?_
    refine aw_goto 833 dL_law_829 (by decide) ?_
    refine aw_aload_n 3 dL_law_833 rfl rfl ?_
    refine aw_iload_n 0 dL_law_834 rfl rfl ?_
    refine aw_iconst (2) dL_law_835 (by decide) ?_
    refine aw_iadd dL_law_836 ?_
    refine aw_sld (6 * c + 2) (nv_add (rfl) (rfl)) (by omega) (by omega) dL_law_837 ?_
    refine aw_aload_n 3 dL_law_838 rfl rfl ?_
    refine aw_iload_n 0 dL_law_839 rfl rfl ?_
    refine aw_iconst (3) dL_law_840 (by decide) ?_
    refine aw_iadd dL_law_841 ?_
    refine aw_sld (6 * c + 3) (nv_add (rfl) (rfl)) (by omega) (by omega) dL_law_842 ?_
    have bJ := bO1 (o := oJ)
    obtain ⟨dd, mc, ms, oJ1, oS1, hd, hmc, hms, hA⟩ := LX_withdraw1 (l := l) (q0 := xs (6 * c + 2)) (k := xs (6 * c + 3)) O I (by omega)
    have bJ1 := bO1 (o := oJ1)
    refine aw_uV [.int 1, .int (xs (6 * c + 2)), .int (xs (6 * c + 3))] [] lL_78 vX8_withdraw mX8_withdraw dL_law_843 hA (InvX_0 I) rfl rfl rfl (Nat.le_of_ble_eq_true rfl) (by show _ + 1 ≤ 10 ∧ 8 + (5 + 11) + 40 * _ ≤ 394; omega) (by show _ ≤ 221190 ∧ _ ≤ 8438680; omega) rfl (fun r1 h1 q1 => ?_)
    obtain ⟨I1, k1, e1⟩ := q1
    have M1 := InvM_k M k1
    obtain ⟨fs, hf⟩ := InvM_0 M1
    refine aw_pop dL_law_846 rfl ?_
    refine aw_aload_n 1 dL_law_847 rfl rfl ?_
    refine aw_aload_n 3 dL_law_848 rfl rfl ?_
    refine aw_iload_n 0 dL_law_849 rfl rfl ?_
    refine aw_iconst (1) dL_law_850 (by decide) ?_
    refine aw_iadd dL_law_851 ?_
    refine aw_sld (6 * c + 1) (nv_add (rfl) (rfl)) (by omega) (by omega) dL_law_852 ?_
    refine aw_if_eq 860 dL_law_853 (by decide) (fun c853 => absurd c853 (c825)) (fun c853 => ?_)
    refine aw_iconst (1) dL_law_856 (by decide) ?_
    refine aw_goto 861 dL_law_857 (by decide) ?_
    refine aw_aload_n 3 dL_law_861 rfl rfl ?_
    refine aw_iload_n 0 dL_law_862 rfl rfl ?_
    refine aw_iconst (2) dL_law_863 (by decide) ?_
    refine aw_iadd dL_law_864 ?_
    refine aw_sld (6 * c + 2) (nv_add (rfl) (rfl)) (by omega) (by omega) dL_law_865 ?_
    refine aw_aload_n 3 dL_law_866 rfl rfl ?_
    refine aw_iload_n 0 dL_law_867 rfl rfl ?_
    refine aw_iconst (3) dL_law_868 (by decide) ?_
    refine aw_iadd dL_law_869 ?_
    refine aw_sld (6 * c + 3) (nv_add (rfl) (rfl)) (by omega) (by omega) dL_law_870 ?_
    refine aw_uV [.int 1, .int (xs (6 * c + 2)), .int (xs (6 * c + 3))] [] lL_82 vX9_withdraw mX9_withdraw dL_law_871 (LM_withdraw1 (l := l) (q0 := xs (6 * c + 2)) (k := xs (6 * c + 3)) O M1) hf rfl rfl rfl (Nat.le_of_ble_eq_true rfl) (by show _ + 1 ≤ 10 ∧ 8 + (5 + 11) + 40 * _ ≤ 394; omega) (by show _ ≤ 221190 ∧ _ ≤ 8438680; omega) rfl (fun r2 h2 q2 => ?_)
    obtain ⟨M2, k2, e2⟩ := q2
    have I2 := InvX_k I1 k2
    refine aw_pop dL_law_874 rfl ?_
    refine aw_goto 1343 dL_law_875 (by decide) ?_
    exact law_next Kn (OK_withdraw1 O) I2 M2 (by omega) (by omega)
set_option maxHeartbeats 4000000 in
theorem law_16 {l : Launch} {G : xG} {b L c : Nat} {xs : Nat → Int32} {m ye fi : Nat → Nat} {W Z Ro Co : Nat → Int32} {sp fa nb : Nat} {b1 b2 th1 ot1 dy1 so1 kn1 go1 : Nat → Nat} {n1 : Nat} {th2 ot2 dy2 so2 kn2 go2 : Nat → Nat} {n2 : Nat} {so3 xx3 yy3 tr3 : Nat → Nat} {n3 : Nat} {kd fo : Nat → Nat} {oJ oS : Option Nat} {h : List va_E} (hL : L ≤ 3072) (hi : 6 * c + 6 ≤ L) (Kn : LawK l G b L xs (c + 1)) (O : OKD m ye fi W Z Ro Co sp fa nb b1 b2 th1 ot1 dy1 so1 kn1 go1 n1 th2 ot2 dy2 so2 kn2 go2 n2 so3 xx3 yy3 tr3 n3 kd fo) (I : InvX G m ye fi W Z Ro Co sp fa nb b1 b2 th1 ot1 dy1 so1 kn1 go1 n1 th2 ot2 dy2 so2 kn2 go2 n2 so3 xx3 yy3 tr3 n3 kd fo c oJ oS h) (M : InvM G m ye fi W Z Ro Co sp fa nb b1 b2 th1 ot1 dy1 so1 kn1 go1 n1 th2 ot2 dy2 so2 kn2 go2 n2 so3 xx3 yy3 tr3 n3 kd fo h) : AW l G yL_law code 4 ret room_1 (xEl G b L xs) (fun below args s => lw_Z below args s) (125 + 6 * bO oJ + 10 * c) (28093 + 13430 * bO oJ + 2242 * c) 878 [(3, .int (nI (6 * c))), (2, .ref (G.1 + 88)), (1, .ref (G.1 + 0)), (0, .ref b)] [] h := by
  refine aw_aload_n 2 dL_law_878 rfl rfl ?_
  refine aw_aload_n 3 dL_law_879 rfl rfl ?_
  refine aw_iload_n 0 dL_law_880 rfl rfl ?_
  refine aw_iconst (1) dL_law_881 (by decide) ?_
  refine aw_iadd dL_law_882 ?_
  refine aw_sld (6 * c + 1) (nv_add (rfl) (rfl)) (by omega) (by omega) dL_law_883 ?_
  refine aw_aload_n 3 dL_law_884 rfl rfl ?_
  refine aw_iload_n 0 dL_law_885 rfl rfl ?_
  refine aw_iconst (2) dL_law_886 (by decide) ?_
  refine aw_iadd dL_law_887 ?_
  refine aw_sld (6 * c + 2) (nv_add (rfl) (rfl)) (by omega) (by omega) dL_law_888 ?_
  refine aw_aload_n 3 dL_law_889 rfl rfl ?_
  refine aw_iload_n 0 dL_law_890 rfl rfl ?_
  refine aw_iconst (3) dL_law_891 (by decide) ?_
  refine aw_iadd dL_law_892 ?_
  refine aw_sld (6 * c + 3) (nv_add (rfl) (rfl)) (by omega) (by omega) dL_law_893 ?_
  have bJ := bO1 (o := oJ)
  obtain ⟨dd, mc, ms, oJ1, oS1, hd, hmc, hms, hA⟩ := LX_where (l := l) (t := xs (6 * c + 1)) (d := xs (6 * c + 2)) (k := xs (6 * c + 3)) O I (by omega)
  have bJ1 := bO1 (o := oJ1)
  refine aw_uV [.int (xs (6 * c + 1)), .int (xs (6 * c + 2)), .int (xs (6 * c + 3))] [] lL_83 vX8_where mX8_where dL_law_894 hA (InvX_0 I) rfl rfl rfl (Nat.le_of_ble_eq_true rfl) (by show _ + 1 ≤ 10 ∧ 8 + (5 + 11) + 40 * _ ≤ 394; omega) (by show _ ≤ 221190 ∧ _ ≤ 8438680; omega) rfl (fun r1 h1 q1 => ?_)
  obtain ⟨I1, k1, e1⟩ := q1
  have M1 := InvM_k M k1
  obtain ⟨fs, hf⟩ := InvM_0 M1
  refine aw_pop dL_law_897 rfl ?_
  refine aw_aload_n 1 dL_law_898 rfl rfl ?_
  refine aw_aload_n 3 dL_law_899 rfl rfl ?_
  refine aw_iload_n 0 dL_law_900 rfl rfl ?_
  refine aw_iconst (1) dL_law_901 (by decide) ?_
  refine aw_iadd dL_law_902 ?_
  refine aw_sld (6 * c + 1) (nv_add (rfl) (rfl)) (by omega) (by omega) dL_law_903 ?_
  refine aw_aload_n 3 dL_law_904 rfl rfl ?_
  refine aw_iload_n 0 dL_law_905 rfl rfl ?_
  refine aw_iconst (2) dL_law_906 (by decide) ?_
  refine aw_iadd dL_law_907 ?_
  refine aw_sld (6 * c + 2) (nv_add (rfl) (rfl)) (by omega) (by omega) dL_law_908 ?_
  refine aw_aload_n 3 dL_law_909 rfl rfl ?_
  refine aw_iload_n 0 dL_law_910 rfl rfl ?_
  refine aw_iconst (3) dL_law_911 (by decide) ?_
  refine aw_iadd dL_law_912 ?_
  refine aw_sld (6 * c + 3) (nv_add (rfl) (rfl)) (by omega) (by omega) dL_law_913 ?_
  refine aw_uV [.int (xs (6 * c + 1)), .int (xs (6 * c + 2)), .int (xs (6 * c + 3))] [] lL_86 vX9_where mX9_where dL_law_914 (LM_where (l := l) (t := xs (6 * c + 1)) (d := xs (6 * c + 2)) (k := xs (6 * c + 3)) O M1) hf rfl rfl rfl (Nat.le_of_ble_eq_true rfl) (by show _ + 1 ≤ 10 ∧ 8 + (7 + 11) + 40 * _ ≤ 394; omega) (by show _ ≤ 221190 ∧ _ ≤ 8438680; omega) rfl (fun r2 h2 q2 => ?_)
  obtain ⟨M2, k2, e2⟩ := q2
  have I2 := InvX_k I1 k2
  refine aw_pop dL_law_917 rfl ?_
  refine aw_goto 1343 dL_law_918 (by decide) ?_
  exact law_next Kn O I2 M2 (by omega) (by omega)
set_option maxHeartbeats 4000000 in
theorem law_17 {l : Launch} {G : xG} {b L c : Nat} {xs : Nat → Int32} {m ye fi : Nat → Nat} {W Z Ro Co : Nat → Int32} {sp fa nb : Nat} {b1 b2 th1 ot1 dy1 so1 kn1 go1 : Nat → Nat} {n1 : Nat} {th2 ot2 dy2 so2 kn2 go2 : Nat → Nat} {n2 : Nat} {so3 xx3 yy3 tr3 : Nat → Nat} {n3 : Nat} {kd fo : Nat → Nat} {oJ oS : Option Nat} {h : List va_E} (hL : L ≤ 3072) (hi : 6 * c + 6 ≤ L) (Kn : LawK l G b L xs (c + 1)) (O : OKD m ye fi W Z Ro Co sp fa nb b1 b2 th1 ot1 dy1 so1 kn1 go1 n1 th2 ot2 dy2 so2 kn2 go2 n2 so3 xx3 yy3 tr3 n3 kd fo) (I : InvX G m ye fi W Z Ro Co sp fa nb b1 b2 th1 ot1 dy1 so1 kn1 go1 n1 th2 ot2 dy2 so2 kn2 go2 n2 so3 xx3 yy3 tr3 n3 kd fo c oJ oS h) (M : InvM G m ye fi W Z Ro Co sp fa nb b1 b2 th1 ot1 dy1 so1 kn1 go1 n1 th2 ot2 dy2 so2 kn2 go2 n2 so3 xx3 yy3 tr3 n3 kd fo h) : AW l G yL_law code 4 ret room_1 (xEl G b L xs) (fun below args s => lw_Z below args s) (125 + 6 * bO oJ + 10 * c) (28093 + 13430 * bO oJ + 2242 * c) 921 [(3, .int (nI (6 * c))), (2, .ref (G.1 + 88)), (1, .ref (G.1 + 0)), (0, .ref b)] [] h := by
  refine aw_aload_n 2 dL_law_921 rfl rfl ?_
  refine aw_aload_n 3 dL_law_922 rfl rfl ?_
  refine aw_iload_n 0 dL_law_923 rfl rfl ?_
  refine aw_iconst (1) dL_law_924 (by decide) ?_
  refine aw_iadd dL_law_925 ?_
  refine aw_sld (6 * c + 1) (nv_add (rfl) (rfl)) (by omega) (by omega) dL_law_926 ?_
  refine aw_aload_n 3 dL_law_927 rfl rfl ?_
  refine aw_iload_n 0 dL_law_928 rfl rfl ?_
  refine aw_iconst (2) dL_law_929 (by decide) ?_
  refine aw_iadd dL_law_930 ?_
  refine aw_sld (6 * c + 2) (nv_add (rfl) (rfl)) (by omega) (by omega) dL_law_931 ?_
  have bJ := bO1 (o := oJ)
  obtain ⟨dd, mc, ms, oJ1, oS1, hd, hmc, hms, hA⟩ := LX_quarrels (l := l) (t := xs (6 * c + 1)) (k := xs (6 * c + 2)) O I (by omega)
  have bJ1 := bO1 (o := oJ1)
  refine aw_uV [.int (xs (6 * c + 1)), .int (xs (6 * c + 2))] [] lL_87 vX8_quarrels mX8_quarrels dL_law_932 hA (InvX_0 I) rfl rfl rfl (Nat.le_of_ble_eq_true rfl) (by show _ + 1 ≤ 10 ∧ 8 + (4 + 11) + 40 * _ ≤ 394; omega) (by show _ ≤ 221190 ∧ _ ≤ 8438680; omega) rfl (fun r1 h1 q1 => ?_)
  obtain ⟨I1, k1, e1⟩ := q1
  have M1 := InvM_k M k1
  obtain ⟨fs, hf⟩ := InvM_0 M1
  refine aw_pop dL_law_935 rfl ?_
  refine aw_aload_n 1 dL_law_936 rfl rfl ?_
  refine aw_aload_n 3 dL_law_937 rfl rfl ?_
  refine aw_iload_n 0 dL_law_938 rfl rfl ?_
  refine aw_iconst (1) dL_law_939 (by decide) ?_
  refine aw_iadd dL_law_940 ?_
  refine aw_sld (6 * c + 1) (nv_add (rfl) (rfl)) (by omega) (by omega) dL_law_941 ?_
  refine aw_aload_n 3 dL_law_942 rfl rfl ?_
  refine aw_iload_n 0 dL_law_943 rfl rfl ?_
  refine aw_iconst (2) dL_law_944 (by decide) ?_
  refine aw_iadd dL_law_945 ?_
  refine aw_sld (6 * c + 2) (nv_add (rfl) (rfl)) (by omega) (by omega) dL_law_946 ?_
  refine aw_uV [.int (xs (6 * c + 1)), .int (xs (6 * c + 2))] [] lL_90 vX9_quarrels mX9_quarrels dL_law_947 (LM_quarrels (l := l) (t := xs (6 * c + 1)) (k := xs (6 * c + 2)) O M1) hf rfl rfl rfl (Nat.le_of_ble_eq_true rfl) (by show _ + 1 ≤ 10 ∧ 8 + (9 + 11) + 40 * _ ≤ 394; omega) (by show _ ≤ 221190 ∧ _ ≤ 8438680; omega) rfl (fun r2 h2 q2 => ?_)
  obtain ⟨M2, k2, e2⟩ := q2
  have I2 := InvX_k I1 k2
  refine aw_pop dL_law_950 rfl ?_
  refine aw_goto 1343 dL_law_951 (by decide) ?_
  exact law_next Kn O I2 M2 (by omega) (by omega)
set_option maxHeartbeats 4000000 in
theorem law_18 {l : Launch} {G : xG} {b L c : Nat} {xs : Nat → Int32} {m ye fi : Nat → Nat} {W Z Ro Co : Nat → Int32} {sp fa nb : Nat} {b1 b2 th1 ot1 dy1 so1 kn1 go1 : Nat → Nat} {n1 : Nat} {th2 ot2 dy2 so2 kn2 go2 : Nat → Nat} {n2 : Nat} {so3 xx3 yy3 tr3 : Nat → Nat} {n3 : Nat} {kd fo : Nat → Nat} {oJ oS : Option Nat} {h : List va_E} (hL : L ≤ 3072) (hi : 6 * c + 6 ≤ L) (Kn : LawK l G b L xs (c + 1)) (O : OKD m ye fi W Z Ro Co sp fa nb b1 b2 th1 ot1 dy1 so1 kn1 go1 n1 th2 ot2 dy2 so2 kn2 go2 n2 so3 xx3 yy3 tr3 n3 kd fo) (I : InvX G m ye fi W Z Ro Co sp fa nb b1 b2 th1 ot1 dy1 so1 kn1 go1 n1 th2 ot2 dy2 so2 kn2 go2 n2 so3 xx3 yy3 tr3 n3 kd fo c oJ oS h) (M : InvM G m ye fi W Z Ro Co sp fa nb b1 b2 th1 ot1 dy1 so1 kn1 go1 n1 th2 ot2 dy2 so2 kn2 go2 n2 so3 xx3 yy3 tr3 n3 kd fo h) : AW l G yL_law code 4 ret room_1 (xEl G b L xs) (fun below args s => lw_Z below args s) (125 + 6 * bO oJ + 10 * c) (28093 + 13430 * bO oJ + 2242 * c) 954 [(3, .int (nI (6 * c))), (2, .ref (G.1 + 88)), (1, .ref (G.1 + 0)), (0, .ref b)] [] h := by
  refine aw_aload_n 2 dL_law_954 rfl rfl ?_
  refine aw_aload_n 3 dL_law_955 rfl rfl ?_
  refine aw_iload_n 0 dL_law_956 rfl rfl ?_
  refine aw_iconst (1) dL_law_957 (by decide) ?_
  refine aw_iadd dL_law_958 ?_
  refine aw_sld (6 * c + 1) (nv_add (rfl) (rfl)) (by omega) (by omega) dL_law_959 ?_
  refine aw_aload_n 3 dL_law_960 rfl rfl ?_
  refine aw_iload_n 0 dL_law_961 rfl rfl ?_
  refine aw_iconst (2) dL_law_962 (by decide) ?_
  refine aw_iadd dL_law_963 ?_
  refine aw_sld (6 * c + 2) (nv_add (rfl) (rfl)) (by omega) (by omega) dL_law_964 ?_
  refine aw_aload_n 3 dL_law_965 rfl rfl ?_
  refine aw_iload_n 0 dL_law_966 rfl rfl ?_
  refine aw_iconst (3) dL_law_967 (by decide) ?_
  refine aw_iadd dL_law_968 ?_
  refine aw_sld (6 * c + 3) (nv_add (rfl) (rfl)) (by omega) (by omega) dL_law_969 ?_
  refine aw_aload_n 3 dL_law_970 rfl rfl ?_
  refine aw_iload_n 0 dL_law_971 rfl rfl ?_
  refine aw_iconst (4) dL_law_972 (by decide) ?_
  refine aw_iadd dL_law_973 ?_
  refine aw_sld (6 * c + 4) (nv_add (rfl) (rfl)) (by omega) (by omega) dL_law_974 ?_
  have bJ := bO1 (o := oJ)
  obtain ⟨dd, mc, ms, oJ1, oS1, hd, hmc, hms, hA⟩ := LX_holds (l := l) (t := xs (6 * c + 1)) (d := xs (6 * c + 2)) (k := xs (6 * c + 3)) (v := xs (6 * c + 4)) O I (by omega)
  have bJ1 := bO1 (o := oJ1)
  refine aw_uV [.int (xs (6 * c + 1)), .int (xs (6 * c + 2)), .int (xs (6 * c + 3)), .int (xs (6 * c + 4))] [] lL_91 vX8_holds mX8_holds dL_law_975 hA (InvX_0 I) rfl rfl rfl (Nat.le_of_ble_eq_true rfl) (by show _ + 1 ≤ 10 ∧ 8 + (6 + 11) + 40 * _ ≤ 394; omega) (by show _ ≤ 221190 ∧ _ ≤ 8438680; omega) rfl (fun r1 h1 q1 => ?_)
  obtain ⟨I1, k1, e1⟩ := q1
  have M1 := InvM_k M k1
  obtain ⟨fs, hf⟩ := InvM_0 M1
  refine aw_pop dL_law_978 rfl ?_
  refine aw_aload_n 1 dL_law_979 rfl rfl ?_
  refine aw_aload_n 3 dL_law_980 rfl rfl ?_
  refine aw_iload_n 0 dL_law_981 rfl rfl ?_
  refine aw_iconst (1) dL_law_982 (by decide) ?_
  refine aw_iadd dL_law_983 ?_
  refine aw_sld (6 * c + 1) (nv_add (rfl) (rfl)) (by omega) (by omega) dL_law_984 ?_
  refine aw_aload_n 3 dL_law_985 rfl rfl ?_
  refine aw_iload_n 0 dL_law_986 rfl rfl ?_
  refine aw_iconst (2) dL_law_987 (by decide) ?_
  refine aw_iadd dL_law_988 ?_
  refine aw_sld (6 * c + 2) (nv_add (rfl) (rfl)) (by omega) (by omega) dL_law_989 ?_
  refine aw_aload_n 3 dL_law_990 rfl rfl ?_
  refine aw_iload_n 0 dL_law_991 rfl rfl ?_
  refine aw_iconst (3) dL_law_992 (by decide) ?_
  refine aw_iadd dL_law_993 ?_
  refine aw_sld (6 * c + 3) (nv_add (rfl) (rfl)) (by omega) (by omega) dL_law_994 ?_
  refine aw_aload_n 3 dL_law_995 rfl rfl ?_
  refine aw_iload_n 0 dL_law_996 rfl rfl ?_
  refine aw_iconst (4) dL_law_997 (by decide) ?_
  refine aw_iadd dL_law_998 ?_
  refine aw_sld (6 * c + 4) (nv_add (rfl) (rfl)) (by omega) (by omega) dL_law_999 ?_
  refine aw_uV [.int (xs (6 * c + 1)), .int (xs (6 * c + 2)), .int (xs (6 * c + 3)), .int (xs (6 * c + 4))] [] lL_94 vX9_holds mX9_holds dL_law_1000 (LM_holds (l := l) (t := xs (6 * c + 1)) (d := xs (6 * c + 2)) (k := xs (6 * c + 3)) (v := xs (6 * c + 4)) O M1) hf rfl rfl rfl (Nat.le_of_ble_eq_true rfl) (by show _ + 1 ≤ 10 ∧ 8 + (6 + 11) + 40 * _ ≤ 394; omega) (by show _ ≤ 221190 ∧ _ ≤ 8438680; omega) rfl (fun r2 h2 q2 => ?_)
  obtain ⟨M2, k2, e2⟩ := q2
  have I2 := InvX_k I1 k2
  refine aw_pop dL_law_1003 rfl ?_
  refine aw_goto 1343 dL_law_1004 (by decide) ?_
  exact law_next Kn O I2 M2 (by omega) (by omega)
set_option maxHeartbeats 4000000 in
theorem law_19 {l : Launch} {G : xG} {b L c : Nat} {xs : Nat → Int32} {m ye fi : Nat → Nat} {W Z Ro Co : Nat → Int32} {sp fa nb : Nat} {b1 b2 th1 ot1 dy1 so1 kn1 go1 : Nat → Nat} {n1 : Nat} {th2 ot2 dy2 so2 kn2 go2 : Nat → Nat} {n2 : Nat} {so3 xx3 yy3 tr3 : Nat → Nat} {n3 : Nat} {kd fo : Nat → Nat} {oJ oS : Option Nat} {h : List va_E} (hL : L ≤ 3072) (hi : 6 * c + 6 ≤ L) (Kn : LawK l G b L xs (c + 1)) (O : OKD m ye fi W Z Ro Co sp fa nb b1 b2 th1 ot1 dy1 so1 kn1 go1 n1 th2 ot2 dy2 so2 kn2 go2 n2 so3 xx3 yy3 tr3 n3 kd fo) (I : InvX G m ye fi W Z Ro Co sp fa nb b1 b2 th1 ot1 dy1 so1 kn1 go1 n1 th2 ot2 dy2 so2 kn2 go2 n2 so3 xx3 yy3 tr3 n3 kd fo c oJ oS h) (M : InvM G m ye fi W Z Ro Co sp fa nb b1 b2 th1 ot1 dy1 so1 kn1 go1 n1 th2 ot2 dy2 so2 kn2 go2 n2 so3 xx3 yy3 tr3 n3 kd fo h) : AW l G yL_law code 4 ret room_1 (xEl G b L xs) (fun below args s => lw_Z below args s) (125 + 6 * bO oJ + 10 * c) (28093 + 13430 * bO oJ + 2242 * c) 1007 [(3, .int (nI (6 * c))), (2, .ref (G.1 + 88)), (1, .ref (G.1 + 0)), (0, .ref b)] [] h := by
  refine aw_aload_n 2 dL_law_1007 rfl rfl ?_
  refine aw_aload_n 3 dL_law_1008 rfl rfl ?_
  refine aw_iload_n 0 dL_law_1009 rfl rfl ?_
  refine aw_iconst (1) dL_law_1010 (by decide) ?_
  refine aw_iadd dL_law_1011 ?_
  refine aw_sld (6 * c + 1) (nv_add (rfl) (rfl)) (by omega) (by omega) dL_law_1012 ?_
  refine aw_aload_n 3 dL_law_1013 rfl rfl ?_
  refine aw_iload_n 0 dL_law_1014 rfl rfl ?_
  refine aw_iconst (2) dL_law_1015 (by decide) ?_
  refine aw_iadd dL_law_1016 ?_
  refine aw_sld (6 * c + 2) (nv_add (rfl) (rfl)) (by omega) (by omega) dL_law_1017 ?_
  refine aw_aload_n 3 dL_law_1018 rfl rfl ?_
  refine aw_iload_n 0 dL_law_1019 rfl rfl ?_
  refine aw_iconst (3) dL_law_1020 (by decide) ?_
  refine aw_iadd dL_law_1021 ?_
  refine aw_sld (6 * c + 3) (nv_add (rfl) (rfl)) (by omega) (by omega) dL_law_1022 ?_
  have bJ := bO1 (o := oJ)
  obtain ⟨dd, mc, ms, oJ1, oS1, hd, hmc, hms, hA⟩ := LX_since (l := l) (t := xs (6 * c + 1)) (d := xs (6 * c + 2)) (k := xs (6 * c + 3)) O I (by omega)
  have bJ1 := bO1 (o := oJ1)
  refine aw_uV [.int (xs (6 * c + 1)), .int (xs (6 * c + 2)), .int (xs (6 * c + 3))] [] lL_95 vX8_since mX8_since dL_law_1023 hA (InvX_0 I) rfl rfl rfl (Nat.le_of_ble_eq_true rfl) (by show _ + 1 ≤ 10 ∧ 8 + (5 + 11) + 40 * _ ≤ 394; omega) (by show _ ≤ 221190 ∧ _ ≤ 8438680; omega) rfl (fun r1 h1 q1 => ?_)
  obtain ⟨I1, k1, e1⟩ := q1
  have M1 := InvM_k M k1
  obtain ⟨fs, hf⟩ := InvM_0 M1
  refine aw_pop dL_law_1026 rfl ?_
  refine aw_aload_n 1 dL_law_1027 rfl rfl ?_
  refine aw_aload_n 3 dL_law_1028 rfl rfl ?_
  refine aw_iload_n 0 dL_law_1029 rfl rfl ?_
  refine aw_iconst (1) dL_law_1030 (by decide) ?_
  refine aw_iadd dL_law_1031 ?_
  refine aw_sld (6 * c + 1) (nv_add (rfl) (rfl)) (by omega) (by omega) dL_law_1032 ?_
  refine aw_aload_n 3 dL_law_1033 rfl rfl ?_
  refine aw_iload_n 0 dL_law_1034 rfl rfl ?_
  refine aw_iconst (2) dL_law_1035 (by decide) ?_
  refine aw_iadd dL_law_1036 ?_
  refine aw_sld (6 * c + 2) (nv_add (rfl) (rfl)) (by omega) (by omega) dL_law_1037 ?_
  refine aw_aload_n 3 dL_law_1038 rfl rfl ?_
  refine aw_iload_n 0 dL_law_1039 rfl rfl ?_
  refine aw_iconst (3) dL_law_1040 (by decide) ?_
  refine aw_iadd dL_law_1041 ?_
  refine aw_sld (6 * c + 3) (nv_add (rfl) (rfl)) (by omega) (by omega) dL_law_1042 ?_
  refine aw_uV [.int (xs (6 * c + 1)), .int (xs (6 * c + 2)), .int (xs (6 * c + 3))] [] lL_98 vX9_since mX9_since dL_law_1043 (LM_since (l := l) (t := xs (6 * c + 1)) (d := xs (6 * c + 2)) (k := xs (6 * c + 3)) O M1) hf rfl rfl rfl (Nat.le_of_ble_eq_true rfl) (by show _ + 1 ≤ 10 ∧ 8 + (7 + 11) + 40 * _ ≤ 394; omega) (by show _ ≤ 221190 ∧ _ ≤ 8438680; omega) rfl (fun r2 h2 q2 => ?_)
  obtain ⟨M2, k2, e2⟩ := q2
  have I2 := InvX_k I1 k2
  refine aw_pop dL_law_1046 rfl ?_
  refine aw_goto 1343 dL_law_1047 (by decide) ?_
  exact law_next Kn O I2 M2 (by omega) (by omega)
set_option maxHeartbeats 4000000 in
theorem law_20 {l : Launch} {G : xG} {b L c : Nat} {xs : Nat → Int32} {m ye fi : Nat → Nat} {W Z Ro Co : Nat → Int32} {sp fa nb : Nat} {b1 b2 th1 ot1 dy1 so1 kn1 go1 : Nat → Nat} {n1 : Nat} {th2 ot2 dy2 so2 kn2 go2 : Nat → Nat} {n2 : Nat} {so3 xx3 yy3 tr3 : Nat → Nat} {n3 : Nat} {kd fo : Nat → Nat} {oJ oS : Option Nat} {h : List va_E} (hL : L ≤ 3072) (hi : 6 * c + 6 ≤ L) (Kn : LawK l G b L xs (c + 1)) (O : OKD m ye fi W Z Ro Co sp fa nb b1 b2 th1 ot1 dy1 so1 kn1 go1 n1 th2 ot2 dy2 so2 kn2 go2 n2 so3 xx3 yy3 tr3 n3 kd fo) (I : InvX G m ye fi W Z Ro Co sp fa nb b1 b2 th1 ot1 dy1 so1 kn1 go1 n1 th2 ot2 dy2 so2 kn2 go2 n2 so3 xx3 yy3 tr3 n3 kd fo c oJ oS h) (M : InvM G m ye fi W Z Ro Co sp fa nb b1 b2 th1 ot1 dy1 so1 kn1 go1 n1 th2 ot2 dy2 so2 kn2 go2 n2 so3 xx3 yy3 tr3 n3 kd fo h) : AW l G yL_law code 4 ret room_1 (xEl G b L xs) (fun below args s => lw_Z below args s) (125 + 6 * bO oJ + 10 * c) (28093 + 13430 * bO oJ + 2242 * c) 1050 [(3, .int (nI (6 * c))), (2, .ref (G.1 + 88)), (1, .ref (G.1 + 0)), (0, .ref b)] [] h := by
  refine aw_aload_n 2 dL_law_1050 rfl rfl ?_
  refine aw_aload_n 3 dL_law_1051 rfl rfl ?_
  refine aw_iload_n 0 dL_law_1052 rfl rfl ?_
  refine aw_iconst (1) dL_law_1053 (by decide) ?_
  refine aw_iadd dL_law_1054 ?_
  refine aw_sld (6 * c + 1) (nv_add (rfl) (rfl)) (by omega) (by omega) dL_law_1055 ?_
  refine aw_aload_n 3 dL_law_1056 rfl rfl ?_
  refine aw_iload_n 0 dL_law_1057 rfl rfl ?_
  refine aw_iconst (2) dL_law_1058 (by decide) ?_
  refine aw_iadd dL_law_1059 ?_
  refine aw_sld (6 * c + 2) (nv_add (rfl) (rfl)) (by omega) (by omega) dL_law_1060 ?_
  refine aw_aload_n 3 dL_law_1061 rfl rfl ?_
  refine aw_iload_n 0 dL_law_1062 rfl rfl ?_
  refine aw_iconst (3) dL_law_1063 (by decide) ?_
  refine aw_iadd dL_law_1064 ?_
  refine aw_sld (6 * c + 3) (nv_add (rfl) (rfl)) (by omega) (by omega) dL_law_1065 ?_
  refine aw_aload_n 3 dL_law_1066 rfl rfl ?_
  refine aw_iload_n 0 dL_law_1067 rfl rfl ?_
  refine aw_iconst (4) dL_law_1068 (by decide) ?_
  refine aw_iadd dL_law_1069 ?_
  refine aw_sld (6 * c + 4) (nv_add (rfl) (rfl)) (by omega) (by omega) dL_law_1070 ?_
  have bJ := bO1 (o := oJ)
  obtain ⟨dd, mc, ms, oJ1, oS1, hd, hmc, hms, hA⟩ := LX_visitor (l := l) (s := xs (6 * c + 1)) (x := xs (6 * c + 2)) (y := xs (6 * c + 3)) (t := xs (6 * c + 4)) O I (by omega)
  have bJ1 := bO1 (o := oJ1)
  refine aw_uV [.int (xs (6 * c + 1)), .int (xs (6 * c + 2)), .int (xs (6 * c + 3)), .int (xs (6 * c + 4))] [] lL_99 vX8_visitor mX8_visitor dL_law_1071 hA (InvX_0 I) rfl rfl rfl (Nat.le_of_ble_eq_true rfl) (by show _ + 1 ≤ 10 ∧ 8 + (5 + 11) + 40 * _ ≤ 394; omega) (by show _ ≤ 221190 ∧ _ ≤ 8438680; omega) rfl (fun r1 h1 q1 => ?_)
  obtain ⟨I1, k1, e1⟩ := q1
  have M1 := InvM_k M k1
  obtain ⟨fs, hf⟩ := InvM_0 M1
  refine aw_pop dL_law_1074 rfl ?_
  refine aw_aload_n 1 dL_law_1075 rfl rfl ?_
  refine aw_aload_n 3 dL_law_1076 rfl rfl ?_
  refine aw_iload_n 0 dL_law_1077 rfl rfl ?_
  refine aw_iconst (1) dL_law_1078 (by decide) ?_
  refine aw_iadd dL_law_1079 ?_
  refine aw_sld (6 * c + 1) (nv_add (rfl) (rfl)) (by omega) (by omega) dL_law_1080 ?_
  refine aw_aload_n 3 dL_law_1081 rfl rfl ?_
  refine aw_iload_n 0 dL_law_1082 rfl rfl ?_
  refine aw_iconst (2) dL_law_1083 (by decide) ?_
  refine aw_iadd dL_law_1084 ?_
  refine aw_sld (6 * c + 2) (nv_add (rfl) (rfl)) (by omega) (by omega) dL_law_1085 ?_
  refine aw_aload_n 3 dL_law_1086 rfl rfl ?_
  refine aw_iload_n 0 dL_law_1087 rfl rfl ?_
  refine aw_iconst (3) dL_law_1088 (by decide) ?_
  refine aw_iadd dL_law_1089 ?_
  refine aw_sld (6 * c + 3) (nv_add (rfl) (rfl)) (by omega) (by omega) dL_law_1090 ?_
  refine aw_aload_n 3 dL_law_1091 rfl rfl ?_
  refine aw_iload_n 0 dL_law_1092 rfl rfl ?_
  refine aw_iconst (4) dL_law_1093 (by decide) ?_
  refine aw_iadd dL_law_1094 ?_
  refine aw_sld (6 * c + 4) (nv_add (rfl) (rfl)) (by omega) (by omega) dL_law_1095 ?_
  refine aw_uV [.int (xs (6 * c + 1)), .int (xs (6 * c + 2)), .int (xs (6 * c + 3)), .int (xs (6 * c + 4))] [] lL_102 vX9_visitor mX9_visitor dL_law_1096 (LM_visitor (l := l) (s := xs (6 * c + 1)) (x := xs (6 * c + 2)) (y := xs (6 * c + 3)) (t := xs (6 * c + 4)) O M1) hf rfl rfl rfl (Nat.le_of_ble_eq_true rfl) (by show _ + 1 ≤ 10 ∧ 8 + (5 + 11) + 40 * _ ≤ 394; omega) (by show _ ≤ 221190 ∧ _ ≤ 8438680; omega) rfl (fun r2 h2 q2 => ?_)
  obtain ⟨M2, k2, e2⟩ := q2
  have I2 := InvX_k I1 k2
  refine aw_pop dL_law_1099 rfl ?_
  refine aw_goto 1343 dL_law_1100 (by decide) ?_
  exact law_next Kn (OK_visitor O) I2 M2 (by omega) (by omega)
set_option maxHeartbeats 4000000 in
theorem law_21 {l : Launch} {G : xG} {b L c : Nat} {xs : Nat → Int32} {m ye fi : Nat → Nat} {W Z Ro Co : Nat → Int32} {sp fa nb : Nat} {b1 b2 th1 ot1 dy1 so1 kn1 go1 : Nat → Nat} {n1 : Nat} {th2 ot2 dy2 so2 kn2 go2 : Nat → Nat} {n2 : Nat} {so3 xx3 yy3 tr3 : Nat → Nat} {n3 : Nat} {kd fo : Nat → Nat} {oJ oS : Option Nat} {h : List va_E} (hL : L ≤ 3072) (hi : 6 * c + 6 ≤ L) (Kn : LawK l G b L xs (c + 1)) (O : OKD m ye fi W Z Ro Co sp fa nb b1 b2 th1 ot1 dy1 so1 kn1 go1 n1 th2 ot2 dy2 so2 kn2 go2 n2 so3 xx3 yy3 tr3 n3 kd fo) (I : InvX G m ye fi W Z Ro Co sp fa nb b1 b2 th1 ot1 dy1 so1 kn1 go1 n1 th2 ot2 dy2 so2 kn2 go2 n2 so3 xx3 yy3 tr3 n3 kd fo c oJ oS h) (M : InvM G m ye fi W Z Ro Co sp fa nb b1 b2 th1 ot1 dy1 so1 kn1 go1 n1 th2 ot2 dy2 so2 kn2 go2 n2 so3 xx3 yy3 tr3 n3 kd fo h) : AW l G yL_law code 4 ret room_1 (xEl G b L xs) (fun below args s => lw_Z below args s) (125 + 6 * bO oJ + 10 * c) (28093 + 13430 * bO oJ + 2242 * c) 1103 [(3, .int (nI (6 * c))), (2, .ref (G.1 + 88)), (1, .ref (G.1 + 0)), (0, .ref b)] [] h := by
  refine aw_aload_n 2 dL_law_1103 rfl rfl ?_
  refine aw_aload_n 3 dL_law_1104 rfl rfl ?_
  refine aw_iload_n 0 dL_law_1105 rfl rfl ?_
  refine aw_iconst (1) dL_law_1106 (by decide) ?_
  refine aw_iadd dL_law_1107 ?_
  refine aw_sld (6 * c + 1) (nv_add (rfl) (rfl)) (by omega) (by omega) dL_law_1108 ?_
  have bJ := bO1 (o := oJ)
  obtain ⟨dd, mc, ms, oJ1, oS1, hd, hmc, hms, hA⟩ := LX_shelf (l := l) (w := xs (6 * c + 1)) O I (by omega)
  have bJ1 := bO1 (o := oJ1)
  refine aw_uV [.int (xs (6 * c + 1))] [] lL_103 vX8_shelf mX8_shelf dL_law_1109 hA (InvX_0 I) rfl rfl rfl (Nat.le_of_ble_eq_true rfl) (by show _ + 1 ≤ 10 ∧ 8 + (3 + 11) + 40 * _ ≤ 394; omega) (by show _ ≤ 221190 ∧ _ ≤ 8438680; omega) rfl (fun r1 h1 q1 => ?_)
  obtain ⟨I1, k1, e1⟩ := q1
  have M1 := InvM_k M k1
  obtain ⟨fs, hf⟩ := InvM_0 M1
  refine aw_pop dL_law_1112 rfl ?_
  refine aw_aload_n 1 dL_law_1113 rfl rfl ?_
  refine aw_aload_n 3 dL_law_1114 rfl rfl ?_
  refine aw_iload_n 0 dL_law_1115 rfl rfl ?_
  refine aw_iconst (1) dL_law_1116 (by decide) ?_
  refine aw_iadd dL_law_1117 ?_
  refine aw_sld (6 * c + 1) (nv_add (rfl) (rfl)) (by omega) (by omega) dL_law_1118 ?_
  refine aw_uV [.int (xs (6 * c + 1))] [] lL_106 vX9_shelf mX9_shelf dL_law_1119 (LM_shelf (l := l) (w := xs (6 * c + 1)) O M1) hf rfl rfl rfl (Nat.le_of_ble_eq_true rfl) (by show _ + 1 ≤ 10 ∧ 8 + (3 + 11) + 40 * _ ≤ 394; omega) (by show _ ≤ 221190 ∧ _ ≤ 8438680; omega) rfl (fun r2 h2 q2 => ?_)
  obtain ⟨M2, k2, e2⟩ := q2
  have I2 := InvX_k I1 k2
  refine aw_pop dL_law_1122 rfl ?_
  refine aw_goto 1343 dL_law_1123 (by decide) ?_
  exact law_next Kn O I2 M2 (by omega) (by omega)
set_option maxHeartbeats 4000000 in
theorem law_22 {l : Launch} {G : xG} {b L c : Nat} {xs : Nat → Int32} {m ye fi : Nat → Nat} {W Z Ro Co : Nat → Int32} {sp fa nb : Nat} {b1 b2 th1 ot1 dy1 so1 kn1 go1 : Nat → Nat} {n1 : Nat} {th2 ot2 dy2 so2 kn2 go2 : Nat → Nat} {n2 : Nat} {so3 xx3 yy3 tr3 : Nat → Nat} {n3 : Nat} {kd fo : Nat → Nat} {oJ oS : Option Nat} {h : List va_E} (hL : L ≤ 3072) (hi : 6 * c + 6 ≤ L) (Kn : LawK l G b L xs (c + 1)) (O : OKD m ye fi W Z Ro Co sp fa nb b1 b2 th1 ot1 dy1 so1 kn1 go1 n1 th2 ot2 dy2 so2 kn2 go2 n2 so3 xx3 yy3 tr3 n3 kd fo) (I : InvX G m ye fi W Z Ro Co sp fa nb b1 b2 th1 ot1 dy1 so1 kn1 go1 n1 th2 ot2 dy2 so2 kn2 go2 n2 so3 xx3 yy3 tr3 n3 kd fo c oJ oS h) (M : InvM G m ye fi W Z Ro Co sp fa nb b1 b2 th1 ot1 dy1 so1 kn1 go1 n1 th2 ot2 dy2 so2 kn2 go2 n2 so3 xx3 yy3 tr3 n3 kd fo h) : AW l G yL_law code 4 ret room_1 (xEl G b L xs) (fun below args s => lw_Z below args s) (125 + 6 * bO oJ + 10 * c) (28093 + 13430 * bO oJ + 2242 * c) 1126 [(3, .int (nI (6 * c))), (2, .ref (G.1 + 88)), (1, .ref (G.1 + 0)), (0, .ref b)] [] h := by
  refine aw_aload_n 2 dL_law_1126 rfl rfl ?_
  refine aw_aload_n 3 dL_law_1127 rfl rfl ?_
  refine aw_iload_n 0 dL_law_1128 rfl rfl ?_
  refine aw_iconst (1) dL_law_1129 (by decide) ?_
  refine aw_iadd dL_law_1130 ?_
  refine aw_sld (6 * c + 1) (nv_add (rfl) (rfl)) (by omega) (by omega) dL_law_1131 ?_
  refine aw_aload_n 3 dL_law_1132 rfl rfl ?_
  refine aw_iload_n 0 dL_law_1133 rfl rfl ?_
  refine aw_iconst (2) dL_law_1134 (by decide) ?_
  refine aw_iadd dL_law_1135 ?_
  refine aw_sld (6 * c + 2) (nv_add (rfl) (rfl)) (by omega) (by omega) dL_law_1136 ?_
  have bJ := bO1 (o := oJ)
  obtain ⟨dd, mc, ms, oJ1, oS1, hd, hmc, hms, hA⟩ := LX_row (l := l) (w := xs (6 * c + 1)) (k := xs (6 * c + 2)) O I (by omega)
  have bJ1 := bO1 (o := oJ1)
  refine aw_uV [.int (xs (6 * c + 1)), .int (xs (6 * c + 2))] [] lL_107 vX8_row mX8_row dL_law_1137 hA (InvX_0 I) rfl rfl rfl (Nat.le_of_ble_eq_true rfl) (by show _ + 1 ≤ 10 ∧ 8 + (5 + 11) + 40 * _ ≤ 394; omega) (by show _ ≤ 221190 ∧ _ ≤ 8438680; omega) rfl (fun r1 h1 q1 => ?_)
  obtain ⟨I1, k1, e1⟩ := q1
  have M1 := InvM_k M k1
  obtain ⟨fs, hf⟩ := InvM_0 M1
  refine aw_pop dL_law_1140 rfl ?_
  refine aw_aload_n 1 dL_law_1141 rfl rfl ?_
  refine aw_aload_n 3 dL_law_1142 rfl rfl ?_
  refine aw_iload_n 0 dL_law_1143 rfl rfl ?_
  refine aw_iconst (1) dL_law_1144 (by decide) ?_
  refine aw_iadd dL_law_1145 ?_
  refine aw_sld (6 * c + 1) (nv_add (rfl) (rfl)) (by omega) (by omega) dL_law_1146 ?_
  refine aw_aload_n 3 dL_law_1147 rfl rfl ?_
  refine aw_iload_n 0 dL_law_1148 rfl rfl ?_
  refine aw_iconst (2) dL_law_1149 (by decide) ?_
  refine aw_iadd dL_law_1150 ?_
  refine aw_sld (6 * c + 2) (nv_add (rfl) (rfl)) (by omega) (by omega) dL_law_1151 ?_
  refine aw_uV [.int (xs (6 * c + 1)), .int (xs (6 * c + 2))] [] lL_110 vX9_row mX9_row dL_law_1152 (LM_row (l := l) (w := xs (6 * c + 1)) (k := xs (6 * c + 2)) O M1) hf rfl rfl rfl (Nat.le_of_ble_eq_true rfl) (by show _ + 1 ≤ 10 ∧ 8 + (5 + 11) + 40 * _ ≤ 394; omega) (by show _ ≤ 221190 ∧ _ ≤ 8438680; omega) rfl (fun r2 h2 q2 => ?_)
  obtain ⟨M2, k2, e2⟩ := q2
  have I2 := InvX_k I1 k2
  refine aw_pop dL_law_1155 rfl ?_
  refine aw_goto 1343 dL_law_1156 (by decide) ?_
  exact law_next Kn O I2 M2 (by omega) (by omega)
set_option maxHeartbeats 4000000 in
theorem law_23 {l : Launch} {G : xG} {b L c : Nat} {xs : Nat → Int32} {m ye fi : Nat → Nat} {W Z Ro Co : Nat → Int32} {sp fa nb : Nat} {b1 b2 th1 ot1 dy1 so1 kn1 go1 : Nat → Nat} {n1 : Nat} {th2 ot2 dy2 so2 kn2 go2 : Nat → Nat} {n2 : Nat} {so3 xx3 yy3 tr3 : Nat → Nat} {n3 : Nat} {kd fo : Nat → Nat} {oJ oS : Option Nat} {h : List va_E} (hL : L ≤ 3072) (hi : 6 * c + 6 ≤ L) (Kn : LawK l G b L xs (c + 1)) (O : OKD m ye fi W Z Ro Co sp fa nb b1 b2 th1 ot1 dy1 so1 kn1 go1 n1 th2 ot2 dy2 so2 kn2 go2 n2 so3 xx3 yy3 tr3 n3 kd fo) (I : InvX G m ye fi W Z Ro Co sp fa nb b1 b2 th1 ot1 dy1 so1 kn1 go1 n1 th2 ot2 dy2 so2 kn2 go2 n2 so3 xx3 yy3 tr3 n3 kd fo c oJ oS h) (M : InvM G m ye fi W Z Ro Co sp fa nb b1 b2 th1 ot1 dy1 so1 kn1 go1 n1 th2 ot2 dy2 so2 kn2 go2 n2 so3 xx3 yy3 tr3 n3 kd fo h) : AW l G yL_law code 4 ret room_1 (xEl G b L xs) (fun below args s => lw_Z below args s) (125 + 6 * bO oJ + 10 * c) (28093 + 13430 * bO oJ + 2242 * c) 1159 [(3, .int (nI (6 * c))), (2, .ref (G.1 + 88)), (1, .ref (G.1 + 0)), (0, .ref b)] [] h := by
  refine aw_aload_n 2 dL_law_1159 rfl rfl ?_
  refine aw_aload_n 3 dL_law_1160 rfl rfl ?_
  refine aw_iload_n 0 dL_law_1161 rfl rfl ?_
  refine aw_iconst (1) dL_law_1162 (by decide) ?_
  refine aw_iadd dL_law_1163 ?_
  refine aw_sld (6 * c + 1) (nv_add (rfl) (rfl)) (by omega) (by omega) dL_law_1164 ?_
  have bJ := bO1 (o := oJ)
  obtain ⟨dd, mc, ms, oJ1, oS1, hd, hmc, hms, hA⟩ := LX_quarrel (l := l) (w := xs (6 * c + 1)) O I (by omega)
  have bJ1 := bO1 (o := oJ1)
  refine aw_uV [.int (xs (6 * c + 1))] [] lL_111 vX8_quarrel mX8_quarrel dL_law_1165 hA (InvX_0 I) rfl rfl rfl (Nat.le_of_ble_eq_true rfl) (by show _ + 1 ≤ 10 ∧ 8 + (4 + 11) + 40 * _ ≤ 394; omega) (by show _ ≤ 221190 ∧ _ ≤ 8438680; omega) rfl (fun r1 h1 q1 => ?_)
  obtain ⟨I1, k1, e1⟩ := q1
  have M1 := InvM_k M k1
  obtain ⟨fs, hf⟩ := InvM_0 M1
  refine aw_pop dL_law_1168 rfl ?_
  refine aw_aload_n 1 dL_law_1169 rfl rfl ?_
  refine aw_aload_n 3 dL_law_1170 rfl rfl ?_
  refine aw_iload_n 0 dL_law_1171 rfl rfl ?_
  refine aw_iconst (1) dL_law_1172 (by decide) ?_
  refine aw_iadd dL_law_1173 ?_
  refine aw_sld (6 * c + 1) (nv_add (rfl) (rfl)) (by omega) (by omega) dL_law_1174 ?_
  refine aw_uV [.int (xs (6 * c + 1))] [] lL_114 vX9_quarrel mX9_quarrel dL_law_1175 (LM_quarrel (l := l) (w := xs (6 * c + 1)) O M1) hf rfl rfl rfl (Nat.le_of_ble_eq_true rfl) (by show _ + 1 ≤ 10 ∧ 8 + (5 + 11) + 40 * _ ≤ 394; omega) (by show _ ≤ 221190 ∧ _ ≤ 8438680; omega) rfl (fun r2 h2 q2 => ?_)
  obtain ⟨M2, k2, e2⟩ := q2
  have I2 := InvX_k I1 k2
  refine aw_pop dL_law_1178 rfl ?_
  refine aw_goto 1343 dL_law_1179 (by decide) ?_
  exact law_next Kn O I2 M2 (by omega) (by omega)
set_option maxHeartbeats 4000000 in
theorem law_24 {l : Launch} {G : xG} {b L c : Nat} {xs : Nat → Int32} {m ye fi : Nat → Nat} {W Z Ro Co : Nat → Int32} {sp fa nb : Nat} {b1 b2 th1 ot1 dy1 so1 kn1 go1 : Nat → Nat} {n1 : Nat} {th2 ot2 dy2 so2 kn2 go2 : Nat → Nat} {n2 : Nat} {so3 xx3 yy3 tr3 : Nat → Nat} {n3 : Nat} {kd fo : Nat → Nat} {oJ oS : Option Nat} {h : List va_E} (hL : L ≤ 3072) (hi : 6 * c + 6 ≤ L) (Kn : LawK l G b L xs (c + 1)) (O : OKD m ye fi W Z Ro Co sp fa nb b1 b2 th1 ot1 dy1 so1 kn1 go1 n1 th2 ot2 dy2 so2 kn2 go2 n2 so3 xx3 yy3 tr3 n3 kd fo) (I : InvX G m ye fi W Z Ro Co sp fa nb b1 b2 th1 ot1 dy1 so1 kn1 go1 n1 th2 ot2 dy2 so2 kn2 go2 n2 so3 xx3 yy3 tr3 n3 kd fo c oJ oS h) (M : InvM G m ye fi W Z Ro Co sp fa nb b1 b2 th1 ot1 dy1 so1 kn1 go1 n1 th2 ot2 dy2 so2 kn2 go2 n2 so3 xx3 yy3 tr3 n3 kd fo h) : AW l G yL_law code 4 ret room_1 (xEl G b L xs) (fun below args s => lw_Z below args s) (125 + 6 * bO oJ + 10 * c) (28093 + 13430 * bO oJ + 2242 * c) 1182 [(3, .int (nI (6 * c))), (2, .ref (G.1 + 88)), (1, .ref (G.1 + 0)), (0, .ref b)] [] h := by
  refine aw_aload_n 2 dL_law_1182 rfl rfl ?_
  refine aw_aload_n 3 dL_law_1183 rfl rfl ?_
  refine aw_iload_n 0 dL_law_1184 rfl rfl ?_
  refine aw_iconst (1) dL_law_1185 (by decide) ?_
  refine aw_iadd dL_law_1186 ?_
  refine aw_sld (6 * c + 1) (nv_add (rfl) (rfl)) (by omega) (by omega) dL_law_1187 ?_
  refine aw_aload_n 3 dL_law_1188 rfl rfl ?_
  refine aw_iload_n 0 dL_law_1189 rfl rfl ?_
  refine aw_iconst (2) dL_law_1190 (by decide) ?_
  refine aw_iadd dL_law_1191 ?_
  refine aw_sld (6 * c + 2) (nv_add (rfl) (rfl)) (by omega) (by omega) dL_law_1192 ?_
  have bJ := bO1 (o := oJ)
  obtain ⟨dd, mc, ms, oJ1, oS1, hd, hmc, hms, hA⟩ := LX_part (l := l) (p := xs (6 * c + 1)) (v := xs (6 * c + 2)) O I (by omega)
  have bJ1 := bO1 (o := oJ1)
  refine aw_uV [.int (xs (6 * c + 1)), .int (xs (6 * c + 2))] [] lL_115 vX8_part mX8_part dL_law_1193 hA (InvX_0 I) rfl rfl rfl (Nat.le_of_ble_eq_true rfl) (by show _ + 1 ≤ 10 ∧ 8 + (3 + 11) + 40 * _ ≤ 394; omega) (by show _ ≤ 221190 ∧ _ ≤ 8438680; omega) rfl (fun r1 h1 q1 => ?_)
  obtain ⟨I1, k1, e1⟩ := q1
  have M1 := InvM_k M k1
  obtain ⟨fs, hf⟩ := InvM_0 M1
  refine aw_pop dL_law_1196 rfl ?_
  refine aw_aload_n 1 dL_law_1197 rfl rfl ?_
  refine aw_aload_n 3 dL_law_1198 rfl rfl ?_
  refine aw_iload_n 0 dL_law_1199 rfl rfl ?_
  refine aw_iconst (1) dL_law_1200 (by decide) ?_
  refine aw_iadd dL_law_1201 ?_
  refine aw_sld (6 * c + 1) (nv_add (rfl) (rfl)) (by omega) (by omega) dL_law_1202 ?_
  refine aw_aload_n 3 dL_law_1203 rfl rfl ?_
  refine aw_iload_n 0 dL_law_1204 rfl rfl ?_
  refine aw_iconst (2) dL_law_1205 (by decide) ?_
  refine aw_iadd dL_law_1206 ?_
  refine aw_sld (6 * c + 2) (nv_add (rfl) (rfl)) (by omega) (by omega) dL_law_1207 ?_
  refine aw_uV [.int (xs (6 * c + 1)), .int (xs (6 * c + 2))] [] lL_118 vX9_part mX9_part dL_law_1208 (LM_part (l := l) (p := xs (6 * c + 1)) (v := xs (6 * c + 2)) O M1) hf rfl rfl rfl (Nat.le_of_ble_eq_true rfl) (by show _ + 1 ≤ 10 ∧ 8 + (5 + 11) + 40 * _ ≤ 394; omega) (by show _ ≤ 221190 ∧ _ ≤ 8438680; omega) rfl (fun r2 h2 q2 => ?_)
  obtain ⟨M2, k2, e2⟩ := q2
  have I2 := InvX_k I1 k2
  refine aw_pop dL_law_1211 rfl ?_
  refine aw_goto 1343 dL_law_1212 (by decide) ?_
  exact law_next Kn (OK_part O) I2 M2 (by omega) (by omega)
set_option maxHeartbeats 4000000 in
theorem law_25 {l : Launch} {G : xG} {b L c : Nat} {xs : Nat → Int32} {m ye fi : Nat → Nat} {W Z Ro Co : Nat → Int32} {sp fa nb : Nat} {b1 b2 th1 ot1 dy1 so1 kn1 go1 : Nat → Nat} {n1 : Nat} {th2 ot2 dy2 so2 kn2 go2 : Nat → Nat} {n2 : Nat} {so3 xx3 yy3 tr3 : Nat → Nat} {n3 : Nat} {kd fo : Nat → Nat} {oJ oS : Option Nat} {h : List va_E} (hL : L ≤ 3072) (hi : 6 * c + 6 ≤ L) (Kn : LawK l G b L xs (c + 1)) (O : OKD m ye fi W Z Ro Co sp fa nb b1 b2 th1 ot1 dy1 so1 kn1 go1 n1 th2 ot2 dy2 so2 kn2 go2 n2 so3 xx3 yy3 tr3 n3 kd fo) (I : InvX G m ye fi W Z Ro Co sp fa nb b1 b2 th1 ot1 dy1 so1 kn1 go1 n1 th2 ot2 dy2 so2 kn2 go2 n2 so3 xx3 yy3 tr3 n3 kd fo c oJ oS h) (M : InvM G m ye fi W Z Ro Co sp fa nb b1 b2 th1 ot1 dy1 so1 kn1 go1 n1 th2 ot2 dy2 so2 kn2 go2 n2 so3 xx3 yy3 tr3 n3 kd fo h) : AW l G yL_law code 4 ret room_1 (xEl G b L xs) (fun below args s => lw_Z below args s) (125 + 6 * bO oJ + 10 * c) (28093 + 13430 * bO oJ + 2242 * c) 1215 [(3, .int (nI (6 * c))), (2, .ref (G.1 + 88)), (1, .ref (G.1 + 0)), (0, .ref b)] [] h := by
  refine aw_aload_n 2 dL_law_1215 rfl rfl ?_
  refine aw_aload_n 3 dL_law_1216 rfl rfl ?_
  refine aw_iload_n 0 dL_law_1217 rfl rfl ?_
  refine aw_iconst (1) dL_law_1218 (by decide) ?_
  refine aw_iadd dL_law_1219 ?_
  refine aw_sld (6 * c + 1) (nv_add (rfl) (rfl)) (by omega) (by omega) dL_law_1220 ?_
  refine aw_aload_n 3 dL_law_1221 rfl rfl ?_
  refine aw_iload_n 0 dL_law_1222 rfl rfl ?_
  refine aw_iconst (2) dL_law_1223 (by decide) ?_
  refine aw_iadd dL_law_1224 ?_
  refine aw_sld (6 * c + 2) (nv_add (rfl) (rfl)) (by omega) (by omega) dL_law_1225 ?_
  refine aw_aload_n 3 dL_law_1226 rfl rfl ?_
  refine aw_iload_n 0 dL_law_1227 rfl rfl ?_
  refine aw_iconst (3) dL_law_1228 (by decide) ?_
  refine aw_iadd dL_law_1229 ?_
  refine aw_sld (6 * c + 3) (nv_add (rfl) (rfl)) (by omega) (by omega) dL_law_1230 ?_
  refine aw_if_eq 1238 dL_law_1231 (by decide) (fun c1231 => ?_) (fun c1231 => ?_)
  · refine aw_iconst (0) dL_law_1238 (by decide) ?_
    have bJ := bO1 (o := oJ)
    obtain ⟨dd, mc, ms, oJ1, oS1, hd, hmc, hms, hA⟩ := LX_clash0 (l := l) (a := xs (6 * c + 1)) (b := xs (6 * c + 2)) O I (by omega)
    have bJ1 := bO1 (o := oJ1)
    refine aw_uV [.int (xs (6 * c + 1)), .int (xs (6 * c + 2)), .int 0] [] lL_119 vX8_clash mX8_clash dL_law_1239 hA (InvX_0 I) rfl rfl rfl (Nat.le_of_ble_eq_true rfl) (by show _ + 1 ≤ 10 ∧ 8 + (4 + 11) + 40 * _ ≤ 394; omega) (by show _ ≤ 221190 ∧ _ ≤ 8438680; omega) rfl (fun r1 h1 q1 => ?_)
    obtain ⟨I1, k1, e1⟩ := q1
    have M1 := InvM_k M k1
    obtain ⟨fs, hf⟩ := InvM_0 M1
    refine aw_pop dL_law_1242 rfl ?_
    refine aw_aload_n 1 dL_law_1243 rfl rfl ?_
    refine aw_aload_n 3 dL_law_1244 rfl rfl ?_
    refine aw_iload_n 0 dL_law_1245 rfl rfl ?_
    refine aw_iconst (1) dL_law_1246 (by decide) ?_
    refine aw_iadd dL_law_1247 ?_
    refine aw_sld (6 * c + 1) (nv_add (rfl) (rfl)) (by omega) (by omega) dL_law_1248 ?_
    refine aw_aload_n 3 dL_law_1249 rfl rfl ?_
    refine aw_iload_n 0 dL_law_1250 rfl rfl ?_
    refine aw_iconst (2) dL_law_1251 (by decide) ?_
    refine aw_iadd dL_law_1252 ?_
    refine aw_sld (6 * c + 2) (nv_add (rfl) (rfl)) (by omega) (by omega) dL_law_1253 ?_
    refine aw_aload_n 3 dL_law_1254 rfl rfl ?_
    refine aw_iload_n 0 dL_law_1255 rfl rfl ?_
    refine aw_iconst (3) dL_law_1256 (by decide) ?_
    refine aw_iadd dL_law_1257 ?_
    refine aw_sld (6 * c + 3) (nv_add (rfl) (rfl)) (by omega) (by omega) dL_law_1258 ?_
    refine aw_if_eq 1266 dL_law_1259 (by decide) (fun c1259 => ?_) (fun c1259 => absurd (c1231) c1259)
    refine aw_iconst (0) dL_law_1266 (by decide) ?_
    refine aw_uV [.int (xs (6 * c + 1)), .int (xs (6 * c + 2)), .int 0] [] lL_123 vX9_clash mX9_clash dL_law_1267 (LM_clash0 (l := l) (a := xs (6 * c + 1)) (b := xs (6 * c + 2)) O M1) hf rfl rfl rfl (Nat.le_of_ble_eq_true rfl) (by show _ + 1 ≤ 10 ∧ 8 + (4 + 11) + 40 * _ ≤ 394; omega) (by show _ ≤ 221190 ∧ _ ≤ 8438680; omega) rfl (fun r2 h2 q2 => ?_)
    obtain ⟨M2, k2, e2⟩ := q2
    have I2 := InvX_k I1 k2
    refine aw_pop dL_law_1270 rfl ?_
    refine aw_goto 1343 dL_law_1271 (by decide) ?_
    exact law_next Kn (OK_clash0 O) I2 M2 (by omega) (by omega)
  · refine aw_iconst (1) dL_law_1234 (by decide) ?_
    refine aw_goto 1239 dL_law_1235 (by decide) ?_
    have bJ := bO1 (o := oJ)
    obtain ⟨dd, mc, ms, oJ1, oS1, hd, hmc, hms, hA⟩ := LX_clash1 (l := l) (a := xs (6 * c + 1)) (b := xs (6 * c + 2)) O I (by omega)
    have bJ1 := bO1 (o := oJ1)
    refine aw_uV [.int (xs (6 * c + 1)), .int (xs (6 * c + 2)), .int 1] [] lL_119 vX8_clash mX8_clash dL_law_1239 hA (InvX_0 I) rfl rfl rfl (Nat.le_of_ble_eq_true rfl) (by show _ + 1 ≤ 10 ∧ 8 + (4 + 11) + 40 * _ ≤ 394; omega) (by show _ ≤ 221190 ∧ _ ≤ 8438680; omega) rfl (fun r1 h1 q1 => ?_)
    obtain ⟨I1, k1, e1⟩ := q1
    have M1 := InvM_k M k1
    obtain ⟨fs, hf⟩ := InvM_0 M1
    refine aw_pop dL_law_1242 rfl ?_
    refine aw_aload_n 1 dL_law_1243 rfl rfl ?_
    refine aw_aload_n 3 dL_law_1244 rfl rfl ?_
    refine aw_iload_n 0 dL_law_1245 rfl rfl ?_
    refine aw_iconst (1) dL_law_1246 (by decide) ?_
    refine aw_iadd dL_law_1247 ?_
    refine aw_sld (6 * c + 1) (nv_add (rfl) (rfl)) (by omega) (by omega) dL_law_1248 ?_
    refine aw_aload_n 3 dL_law_1249 rfl rfl ?_
    refine aw_iload_n 0 dL_law_1250 rfl rfl ?_
    refine aw_iconst (2) dL_law_1251 (by decide) ?_
    refine aw_iadd dL_law_1252 ?_
    refine aw_sld (6 * c + 2) (nv_add (rfl) (rfl)) (by omega) (by omega) dL_law_1253 ?_
    refine aw_aload_n 3 dL_law_1254 rfl rfl ?_
    refine aw_iload_n 0 dL_law_1255 rfl rfl ?_
    refine aw_iconst (3) dL_law_1256 (by decide) ?_
    refine aw_iadd dL_law_1257 ?_
    refine aw_sld (6 * c + 3) (nv_add (rfl) (rfl)) (by omega) (by omega) dL_law_1258 ?_
    refine aw_if_eq 1266 dL_law_1259 (by decide) (fun c1259 => absurd c1259 (c1231)) (fun c1259 => ?_)
    refine aw_iconst (1) dL_law_1262 (by decide) ?_
    refine aw_goto 1267 dL_law_1263 (by decide) ?_
    refine aw_uV [.int (xs (6 * c + 1)), .int (xs (6 * c + 2)), .int 1] [] lL_123 vX9_clash mX9_clash dL_law_1267 (LM_clash1 (l := l) (a := xs (6 * c + 1)) (b := xs (6 * c + 2)) O M1) hf rfl rfl rfl (Nat.le_of_ble_eq_true rfl) (by show _ + 1 ≤ 10 ∧ 8 + (4 + 11) + 40 * _ ≤ 394; omega) (by show _ ≤ 221190 ∧ _ ≤ 8438680; omega) rfl (fun r2 h2 q2 => ?_)
    obtain ⟨M2, k2, e2⟩ := q2
    have I2 := InvX_k I1 k2
    refine aw_pop dL_law_1270 rfl ?_
    refine aw_goto 1343 dL_law_1271 (by decide) ?_
    exact law_next Kn (OK_clash1 O) I2 M2 (by omega) (by omega)
set_option maxHeartbeats 4000000 in
theorem law_26 {l : Launch} {G : xG} {b L c : Nat} {xs : Nat → Int32} {m ye fi : Nat → Nat} {W Z Ro Co : Nat → Int32} {sp fa nb : Nat} {b1 b2 th1 ot1 dy1 so1 kn1 go1 : Nat → Nat} {n1 : Nat} {th2 ot2 dy2 so2 kn2 go2 : Nat → Nat} {n2 : Nat} {so3 xx3 yy3 tr3 : Nat → Nat} {n3 : Nat} {kd fo : Nat → Nat} {oJ oS : Option Nat} {h : List va_E} (hL : L ≤ 3072) (hi : 6 * c + 6 ≤ L) (Kn : LawK l G b L xs (c + 1)) (O : OKD m ye fi W Z Ro Co sp fa nb b1 b2 th1 ot1 dy1 so1 kn1 go1 n1 th2 ot2 dy2 so2 kn2 go2 n2 so3 xx3 yy3 tr3 n3 kd fo) (I : InvX G m ye fi W Z Ro Co sp fa nb b1 b2 th1 ot1 dy1 so1 kn1 go1 n1 th2 ot2 dy2 so2 kn2 go2 n2 so3 xx3 yy3 tr3 n3 kd fo c oJ oS h) (M : InvM G m ye fi W Z Ro Co sp fa nb b1 b2 th1 ot1 dy1 so1 kn1 go1 n1 th2 ot2 dy2 so2 kn2 go2 n2 so3 xx3 yy3 tr3 n3 kd fo h) : AW l G yL_law code 4 ret room_1 (xEl G b L xs) (fun below args s => lw_Z below args s) (125 + 6 * bO oJ + 10 * c) (28093 + 13430 * bO oJ + 2242 * c) 1274 [(3, .int (nI (6 * c))), (2, .ref (G.1 + 88)), (1, .ref (G.1 + 0)), (0, .ref b)] [] h := by
  refine aw_aload_n 2 dL_law_1274 rfl rfl ?_
  refine aw_aload_n 3 dL_law_1275 rfl rfl ?_
  refine aw_iload_n 0 dL_law_1276 rfl rfl ?_
  refine aw_iconst (1) dL_law_1277 (by decide) ?_
  refine aw_iadd dL_law_1278 ?_
  refine aw_sld (6 * c + 1) (nv_add (rfl) (rfl)) (by omega) (by omega) dL_law_1279 ?_
  have bJ := bO1 (o := oJ)
  obtain ⟨dd, mc, ms, oJ1, oS1, hd, hmc, hms, hA⟩ := LX_fake (l := l) (b := xs (6 * c + 1)) O I (by omega)
  have bJ1 := bO1 (o := oJ1)
  refine aw_uV [.int (xs (6 * c + 1))] [] lL_124 vX8_fake mX8_fake dL_law_1280 hA (InvX_0 I) rfl rfl rfl (Nat.le_of_ble_eq_true rfl) (by show _ + 1 ≤ 10 ∧ 8 + (2 + 11) + 40 * _ ≤ 394; omega) (by show _ ≤ 221190 ∧ _ ≤ 8438680; omega) rfl (fun r1 h1 q1 => ?_)
  obtain ⟨I1, k1, e1⟩ := q1
  have M1 := InvM_k M k1
  obtain ⟨fs, hf⟩ := InvM_0 M1
  refine aw_pop dL_law_1283 rfl ?_
  refine aw_aload_n 1 dL_law_1284 rfl rfl ?_
  refine aw_aload_n 3 dL_law_1285 rfl rfl ?_
  refine aw_iload_n 0 dL_law_1286 rfl rfl ?_
  refine aw_iconst (1) dL_law_1287 (by decide) ?_
  refine aw_iadd dL_law_1288 ?_
  refine aw_sld (6 * c + 1) (nv_add (rfl) (rfl)) (by omega) (by omega) dL_law_1289 ?_
  refine aw_uV [.int (xs (6 * c + 1))] [] lL_127 vX9_fake mX9_fake dL_law_1290 (LM_fake (l := l) (b := xs (6 * c + 1)) O M1) hf rfl rfl rfl (Nat.le_of_ble_eq_true rfl) (by show _ + 1 ≤ 10 ∧ 8 + (2 + 11) + 40 * _ ≤ 394; omega) (by show _ ≤ 221190 ∧ _ ≤ 8438680; omega) rfl (fun r2 h2 q2 => ?_)
  obtain ⟨M2, k2, e2⟩ := q2
  have I2 := InvX_k I1 k2
  refine aw_pop dL_law_1293 rfl ?_
  refine aw_goto 1343 dL_law_1294 (by decide) ?_
  exact law_next Kn O I2 M2 (by omega) (by omega)
set_option maxHeartbeats 4000000 in
theorem law_27 {l : Launch} {G : xG} {b L c : Nat} {xs : Nat → Int32} {m ye fi : Nat → Nat} {W Z Ro Co : Nat → Int32} {sp fa nb : Nat} {b1 b2 th1 ot1 dy1 so1 kn1 go1 : Nat → Nat} {n1 : Nat} {th2 ot2 dy2 so2 kn2 go2 : Nat → Nat} {n2 : Nat} {so3 xx3 yy3 tr3 : Nat → Nat} {n3 : Nat} {kd fo : Nat → Nat} {oJ oS : Option Nat} {h : List va_E} (hL : L ≤ 3072) (hi : 6 * c + 6 ≤ L) (Kn : LawK l G b L xs (c + 1)) (O : OKD m ye fi W Z Ro Co sp fa nb b1 b2 th1 ot1 dy1 so1 kn1 go1 n1 th2 ot2 dy2 so2 kn2 go2 n2 so3 xx3 yy3 tr3 n3 kd fo) (I : InvX G m ye fi W Z Ro Co sp fa nb b1 b2 th1 ot1 dy1 so1 kn1 go1 n1 th2 ot2 dy2 so2 kn2 go2 n2 so3 xx3 yy3 tr3 n3 kd fo c oJ oS h) (M : InvM G m ye fi W Z Ro Co sp fa nb b1 b2 th1 ot1 dy1 so1 kn1 go1 n1 th2 ot2 dy2 so2 kn2 go2 n2 so3 xx3 yy3 tr3 n3 kd fo h) : AW l G yL_law code 4 ret room_1 (xEl G b L xs) (fun below args s => lw_Z below args s) (125 + 6 * bO oJ + 10 * c) (28093 + 13430 * bO oJ + 2242 * c) 1297 [(3, .int (nI (6 * c))), (2, .ref (G.1 + 88)), (1, .ref (G.1 + 0)), (0, .ref b)] [] h := by
  refine aw_aload_n 2 dL_law_1297 rfl rfl ?_
  refine aw_aload_n 3 dL_law_1298 rfl rfl ?_
  refine aw_iload_n 0 dL_law_1299 rfl rfl ?_
  refine aw_iconst (1) dL_law_1300 (by decide) ?_
  refine aw_iadd dL_law_1301 ?_
  refine aw_sld (6 * c + 1) (nv_add (rfl) (rfl)) (by omega) (by omega) dL_law_1302 ?_
  have bJ := bO1 (o := oJ)
  obtain ⟨dd, mc, ms, oJ1, oS1, hd, hmc, hms, hA⟩ := LX_least (l := l) (b := xs (6 * c + 1)) O I (by omega)
  have bJ1 := bO1 (o := oJ1)
  refine aw_uV [.int (xs (6 * c + 1))] [] lL_128 vX8_least mX8_least dL_law_1303 hA (InvX_0 I) rfl rfl rfl (Nat.le_of_ble_eq_true rfl) (by show _ + 1 ≤ 10 ∧ 8 + (2 + 11) + 40 * _ ≤ 394; omega) (by show _ ≤ 221190 ∧ _ ≤ 8438680; omega) rfl (fun r1 h1 q1 => ?_)
  obtain ⟨I1, k1, e1⟩ := q1
  have M1 := InvM_k M k1
  obtain ⟨fs, hf⟩ := InvM_0 M1
  refine aw_aload_n 1 dL_law_1306 rfl rfl ?_
  refine aw_aload_n 3 dL_law_1307 rfl rfl ?_
  refine aw_iload_n 0 dL_law_1308 rfl rfl ?_
  refine aw_iconst (1) dL_law_1309 (by decide) ?_
  refine aw_iadd dL_law_1310 ?_
  refine aw_sld (6 * c + 1) (nv_add (rfl) (rfl)) (by omega) (by omega) dL_law_1311 ?_
  refine aw_uV [.int (xs (6 * c + 1))] [.int r1] lL_131 vX9_least mX9_least dL_law_1312 (LM_least (l := l) (b := xs (6 * c + 1)) O M1) hf rfl rfl rfl (Nat.le_of_ble_eq_true rfl) (by show _ + 1 ≤ 10 ∧ 8 + (4 + 11) + 40 * _ ≤ 394; omega) (by show _ ≤ 221190 ∧ _ ≤ 8438680; omega) rfl (fun r2 h2 q2 => ?_)
  obtain ⟨M2, k2, e2⟩ := q2
  have I2 := InvX_k I1 k2
  refine aw_icmp_eq 1343 dL_law_1315 (by decide) (fun c1315 => ?_) (fun c1315 => absurd (e1.trans e2.symm) c1315)
  exact law_next Kn O I2 M2 (by omega) (by omega)
set_option maxHeartbeats 4000000 in
theorem law_28 {l : Launch} {G : xG} {b L c : Nat} {xs : Nat → Int32} {m ye fi : Nat → Nat} {W Z Ro Co : Nat → Int32} {sp fa nb : Nat} {b1 b2 th1 ot1 dy1 so1 kn1 go1 : Nat → Nat} {n1 : Nat} {th2 ot2 dy2 so2 kn2 go2 : Nat → Nat} {n2 : Nat} {so3 xx3 yy3 tr3 : Nat → Nat} {n3 : Nat} {kd fo : Nat → Nat} {oJ oS : Option Nat} {h : List va_E} (hL : L ≤ 3072) (hi : 6 * c + 6 ≤ L) (Kn : LawK l G b L xs (c + 1)) (O : OKD m ye fi W Z Ro Co sp fa nb b1 b2 th1 ot1 dy1 so1 kn1 go1 n1 th2 ot2 dy2 so2 kn2 go2 n2 so3 xx3 yy3 tr3 n3 kd fo) (I : InvX G m ye fi W Z Ro Co sp fa nb b1 b2 th1 ot1 dy1 so1 kn1 go1 n1 th2 ot2 dy2 so2 kn2 go2 n2 so3 xx3 yy3 tr3 n3 kd fo c oJ oS h) (M : InvM G m ye fi W Z Ro Co sp fa nb b1 b2 th1 ot1 dy1 so1 kn1 go1 n1 th2 ot2 dy2 so2 kn2 go2 n2 so3 xx3 yy3 tr3 n3 kd fo h) : AW l G yL_law code 4 ret room_1 (xEl G b L xs) (fun below args s => lw_Z below args s) (125 + 6 * bO oJ + 10 * c) (28093 + 13430 * bO oJ + 2242 * c) 1320 [(3, .int (nI (6 * c))), (2, .ref (G.1 + 88)), (1, .ref (G.1 + 0)), (0, .ref b)] [] h := by
  refine aw_aload_n 2 dL_law_1320 rfl rfl ?_
  refine aw_aload_n 3 dL_law_1321 rfl rfl ?_
  refine aw_iload_n 0 dL_law_1322 rfl rfl ?_
  refine aw_iconst (1) dL_law_1323 (by decide) ?_
  refine aw_iadd dL_law_1324 ?_
  refine aw_sld (6 * c + 1) (nv_add (rfl) (rfl)) (by omega) (by omega) dL_law_1325 ?_
  have bJ := bO1 (o := oJ)
  obtain ⟨dd, mc, ms, oJ1, oS1, hd, hmc, hms, hA⟩ := LX_count (l := l) (w := xs (6 * c + 1)) O I (by omega)
  have bJ1 := bO1 (o := oJ1)
  refine aw_uV [.int (xs (6 * c + 1))] [] lL_132 vX8_count mX8_count dL_law_1326 hA (InvX_0 I) rfl rfl rfl (Nat.le_of_ble_eq_true rfl) (by show _ + 1 ≤ 10 ∧ 8 + (2 + 11) + 40 * _ ≤ 394; omega) (by show _ ≤ 221190 ∧ _ ≤ 8438680; omega) rfl (fun r1 h1 q1 => ?_)
  obtain ⟨I1, k1⟩ := q1
  have M1 := InvM_k M k1
  obtain ⟨fs, hf⟩ := InvM_0 M1
  refine aw_pop dL_law_1329 rfl ?_
  refine aw_aload_n 1 dL_law_1330 rfl rfl ?_
  refine aw_aload_n 3 dL_law_1331 rfl rfl ?_
  refine aw_iload_n 0 dL_law_1332 rfl rfl ?_
  refine aw_iconst (1) dL_law_1333 (by decide) ?_
  refine aw_iadd dL_law_1334 ?_
  refine aw_sld (6 * c + 1) (nv_add (rfl) (rfl)) (by omega) (by omega) dL_law_1335 ?_
  refine aw_uV [.int (xs (6 * c + 1))] [] lL_135 vX9_count mX9_count dL_law_1336 (LM_count (l := l) (w := xs (6 * c + 1)) O M1) hf rfl rfl rfl (Nat.le_of_ble_eq_true rfl) (by show _ + 1 ≤ 10 ∧ 8 + (5 + 11) + 40 * _ ≤ 394; omega) (by show _ ≤ 221190 ∧ _ ≤ 8438680; omega) rfl (fun r2 h2 q2 => ?_)
  obtain ⟨M2, k2⟩ := q2
  have I2 := InvX_k I1 k2
  refine aw_pop dL_law_1339 rfl ?_
  refine aw_goto 1343 dL_law_1340 (by decide) ?_
  exact law_next Kn O I2 M2 (by omega) (by omega)
