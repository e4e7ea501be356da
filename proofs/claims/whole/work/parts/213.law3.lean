set_option maxHeartbeats 4000000 in
set_option maxRecDepth 100000 in
theorem law_c18 {p : Program} {l : Launch} {e : Env} {s : State} {m : MethodId} {below : List Frame} {meth : Method} {c : Code} {Q : State → Prop} {b L k : Nat} {xs : Nat → Int32} {X : Cx} {ad : Nat → Nat} {ls : Array Slot} (F : LawFix p s m c b L xs X ad) (hk : k + 6 ≤ L) (hl : lv_has ls 4 [(0, .ref b), (1, .ref (ad 0)), (2, .ref (ad 36)), (3, .int (nI k))]) (KK : ∀ (C : ClS) (g : PF) (H : Heap) (locs : List Loc), LawInv X ad s C g H locs → W p l e room_1 s m #[Value.ref b] below meth c H locs 48 7025 Q (F0 m 1082 ls [])) : ∀ (C : ClS) (g : PF) (H : Heap) (locs : List Loc), LawInv X ad s C g H locs → W p l e room_1 s m #[Value.ref b] below meth c H locs 48 7025 Q (F0 m 804 ls []) := by
  obtain ⟨C0, FX, hX, hbl, hL⟩ := F
  obtain ⟨hx, hb, hml, hown, hts⟩ := id C0
  have hbA : ¬ (fun q : Nat => s.heap.size ≤ q) b := Nat.not_le.mpr hbl
  intro C g H locs hI
  obtain ⟨⟨nm, fa, fb, mc, rd⟩, nr, ar, nb, num, lay, pev, pln, tr⟩ := C
  obtain ⟨hC, hM, hH⟩ := hI
  refine lv_aload_n hx hb dL_law_804 rfl (lv_at hl 1 rfl) ?_
  refine law_arg 805 1 hx hb hX hbl hbA hH.2 hl (by omega) hL dL_law_805 dL_law_806 dL_law_807 (by decide) dL_law_808 dL_law_809 ?_
  refine law_arg 810 2 hx hb hX hbl hbA hH.2 hl (by omega) hL dL_law_810 dL_law_811 dL_law_812 (by decide) dL_law_813 dL_law_814 ?_
  refine law_arg 815 3 hx hb hX hbl hbA hH.2 hl (by omega) hL dL_law_815 dL_law_816 dL_law_817 (by decide) dL_law_818 dL_law_819 ?_
  refine law_arg 820 4 hx hb hX hbl hbA hH.2 hl (by omega) hL dL_law_820 dL_law_821 dL_law_822 (by decide) dL_law_823 dL_law_824 ?_
  refine law_arg 825 5 hx hb hX hbl hbA hH.2 hl (by omega) hL dL_law_825 dL_law_826 dL_law_827 (by decide) dL_law_828 dL_law_829 ?_
  refine rc_Vi (rest := []) C0 FX hH 0 (by decide) hC.1.1 rfl (k_X5_places l X ad FX.2.1 _ _ hC (xs (k + 1)) (xs (k + 2)) (xs (k + 3)) (xs (k + 4)) (xs (k + 5))) (cwV 5 hts gL_law_X5_places rfl rfl rfl (by decide +kernel) ⟨(Nat.le_of_ble_eq_true rfl), (Nat.le_of_ble_eq_true rfl)⟩) rfl rfl hl.1 (Nat.le_of_ble_eq_true rfl) dL_law_830 ⟨(Nat.le_of_ble_eq_true rfl), (Nat.le_of_ble_eq_true rfl)⟩ (fun r1 g1 H1 locs1 h1 hH1 => ?_)
  obtain ⟨rfl, e1⟩ := h1
  refine lv_aload_n hx hb dL_law_833 rfl (lv_at hl 2 rfl) ?_
  refine law_arg 834 1 hx hb hX hbl hbA hH1.2 hl (by omega) hL dL_law_834 dL_law_835 dL_law_836 (by decide) dL_law_837 dL_law_838 ?_
  refine law_arg 839 2 hx hb hX hbl hbA hH1.2 hl (by omega) hL dL_law_839 dL_law_840 dL_law_841 (by decide) dL_law_842 dL_law_843 ?_
  refine law_arg 844 3 hx hb hX hbl hbA hH1.2 hl (by omega) hL dL_law_844 dL_law_845 dL_law_846 (by decide) dL_law_847 dL_law_848 ?_
  refine law_arg 849 4 hx hb hX hbl hbA hH1.2 hl (by omega) hL dL_law_849 dL_law_850 dL_law_851 (by decide) dL_law_852 dL_law_853 ?_
  refine law_arg 854 5 hx hb hX hbl hbA hH1.2 hl (by omega) hL dL_law_854 dL_law_855 dL_law_856 (by decide) dL_law_857 dL_law_858 ?_
  obtain ⟨fs6, h36⟩ := mod_g36 hM
  refine rc_Vi (rest := [.int r1]) C0 FX hH1 36 (by decide) h36 rfl (k_X6_places l X ad FX.2.1 _ _ _ _ _ _ _ _ _ _ _ _ _ _ hM (xs (k + 1)) (xs (k + 2)) (xs (k + 3)) (xs (k + 4)) (xs (k + 5))) (cwV 5 hts gL_law_X6_places rfl rfl rfl (by decide +kernel) ⟨(Nat.le_of_ble_eq_true rfl), (Nat.le_of_ble_eq_true rfl)⟩) rfl rfl hl.1 (Nat.le_of_ble_eq_true rfl) dL_law_859 ⟨(Nat.le_of_ble_eq_true rfl), (Nat.le_of_ble_eq_true rfl)⟩ (fun r2 g2 H2 locs2 h2 hH2 => ?_)
  obtain ⟨rfl, e2⟩ := h2
  refine lv_icmp_eq (tgt := 1082) hx hb dL_law_862 (by decide) (fun _ => ?_) (fun cc => absurd (e1.trans e2.symm) cc)
  exact KK _ _ _ _ ⟨hC, hM, hH2⟩
set_option maxHeartbeats 4000000 in
set_option maxRecDepth 100000 in
theorem law_c19 {p : Program} {l : Launch} {e : Env} {s : State} {m : MethodId} {below : List Frame} {meth : Method} {c : Code} {Q : State → Prop} {b L k : Nat} {xs : Nat → Int32} {X : Cx} {ad : Nat → Nat} {ls : Array Slot} (F : LawFix p s m c b L xs X ad) (hk : k + 6 ≤ L) (hl : lv_has ls 4 [(0, .ref b), (1, .ref (ad 0)), (2, .ref (ad 36)), (3, .int (nI k))]) (KK : ∀ (C : ClS) (g : PF) (H : Heap) (locs : List Loc), LawInv X ad s C g H locs → W p l e room_1 s m #[Value.ref b] below meth c H locs 48 7025 Q (F0 m 1082 ls [])) : ∀ (C : ClS) (g : PF) (H : Heap) (locs : List Loc), LawInv X ad s C g H locs → W p l e room_1 s m #[Value.ref b] below meth c H locs 48 7025 Q (F0 m 867 ls []) := by
  obtain ⟨C0, FX, hX, hbl, hL⟩ := F
  obtain ⟨hx, hb, hml, hown, hts⟩ := id C0
  have hbA : ¬ (fun q : Nat => s.heap.size ≤ q) b := Nat.not_le.mpr hbl
  intro C g H locs hI
  obtain ⟨⟨nm, fa, fb, mc, rd⟩, nr, ar, nb, num, lay, pev, pln, tr⟩ := C
  obtain ⟨hC, hM, hH⟩ := hI
  refine lv_aload_n hx hb dL_law_867 rfl (lv_at hl 1 rfl) ?_
  refine law_arg 868 1 hx hb hX hbl hbA hH.2 hl (by omega) hL dL_law_868 dL_law_869 dL_law_870 (by decide) dL_law_871 dL_law_872 ?_
  refine law_arg 873 2 hx hb hX hbl hbA hH.2 hl (by omega) hL dL_law_873 dL_law_874 dL_law_875 (by decide) dL_law_876 dL_law_877 ?_
  refine law_arg 878 3 hx hb hX hbl hbA hH.2 hl (by omega) hL dL_law_878 dL_law_879 dL_law_880 (by decide) dL_law_881 dL_law_882 ?_
  refine law_arg 883 4 hx hb hX hbl hbA hH.2 hl (by omega) hL dL_law_883 dL_law_884 dL_law_885 (by decide) dL_law_886 dL_law_887 ?_
  refine rc_Vi (rest := []) C0 FX hH 0 (by decide) hC.1.1 rfl (k_X5_cleared l X ad FX.2.1 _ _ hC (xs (k + 1)) (xs (k + 2)) (xs (k + 3)) (xs (k + 4))) (cwV 4 hts gL_law_X5_cleared rfl rfl rfl (by decide +kernel) ⟨(Nat.le_of_ble_eq_true rfl), (Nat.le_of_ble_eq_true rfl)⟩) rfl rfl hl.1 (Nat.le_of_ble_eq_true rfl) dL_law_888 ⟨(Nat.le_of_ble_eq_true rfl), (Nat.le_of_ble_eq_true rfl)⟩ (fun r1 g1 H1 locs1 h1 hH1 => ?_)
  obtain ⟨e1, hC, f1⟩ := h1
  have hM := hM.same f1
  refine lv_aload_n hx hb dL_law_891 rfl (lv_at hl 2 rfl) ?_
  refine law_arg 892 1 hx hb hX hbl hbA hH1.2 hl (by omega) hL dL_law_892 dL_law_893 dL_law_894 (by decide) dL_law_895 dL_law_896 ?_
  refine law_arg 897 2 hx hb hX hbl hbA hH1.2 hl (by omega) hL dL_law_897 dL_law_898 dL_law_899 (by decide) dL_law_900 dL_law_901 ?_
  refine law_arg 902 3 hx hb hX hbl hbA hH1.2 hl (by omega) hL dL_law_902 dL_law_903 dL_law_904 (by decide) dL_law_905 dL_law_906 ?_
  refine law_arg 907 4 hx hb hX hbl hbA hH1.2 hl (by omega) hL dL_law_907 dL_law_908 dL_law_909 (by decide) dL_law_910 dL_law_911 ?_
  obtain ⟨fs6, h36⟩ := mod_g36 hM
  refine rc_Vi (rest := [.int r1]) C0 FX hH1 36 (by decide) h36 rfl (k_X6_cleared l X ad FX.2.1 _ _ _ _ _ _ _ _ _ _ _ _ _ _ hM (xs (k + 1)) (xs (k + 2)) (xs (k + 3)) (xs (k + 4))) (cwV 4 hts gL_law_X6_cleared rfl rfl rfl (by decide +kernel) ⟨(Nat.le_of_ble_eq_true rfl), (Nat.le_of_ble_eq_true rfl)⟩) rfl rfl hl.1 (Nat.le_of_ble_eq_true rfl) dL_law_912 ⟨(Nat.le_of_ble_eq_true rfl), (Nat.le_of_ble_eq_true rfl)⟩ (fun r2 g2 H2 locs2 h2 hH2 => ?_)
  obtain ⟨e2, hM, f2⟩ := h2
  have hC := hC.same f2
  refine lv_icmp_eq (tgt := 1082) hx hb dL_law_915 (by decide) (fun _ => ?_) (fun cc => absurd (e1.trans e2.symm) cc)
  exact KK _ _ _ _ ⟨hC, hM, hH2⟩
set_option maxHeartbeats 4000000 in
set_option maxRecDepth 100000 in
theorem law_c20 {p : Program} {l : Launch} {e : Env} {s : State} {m : MethodId} {below : List Frame} {meth : Method} {c : Code} {Q : State → Prop} {b L k : Nat} {xs : Nat → Int32} {X : Cx} {ad : Nat → Nat} {ls : Array Slot} (F : LawFix p s m c b L xs X ad) (hk : k + 6 ≤ L) (hl : lv_has ls 4 [(0, .ref b), (1, .ref (ad 0)), (2, .ref (ad 36)), (3, .int (nI k))]) (KK : ∀ (C : ClS) (g : PF) (H : Heap) (locs : List Loc), LawInv X ad s C g H locs → W p l e room_1 s m #[Value.ref b] below meth c H locs 48 7025 Q (F0 m 1082 ls [])) : ∀ (C : ClS) (g : PF) (H : Heap) (locs : List Loc), LawInv X ad s C g H locs → W p l e room_1 s m #[Value.ref b] below meth c H locs 48 7025 Q (F0 m 920 ls []) := by
  obtain ⟨C0, FX, hX, hbl, hL⟩ := F
  obtain ⟨hx, hb, hml, hown, hts⟩ := id C0
  have hbA : ¬ (fun q : Nat => s.heap.size ≤ q) b := Nat.not_le.mpr hbl
  intro C g H locs hI
  obtain ⟨⟨nm, fa, fb, mc, rd⟩, nr, ar, nb, num, lay, pev, pln, tr⟩ := C
  obtain ⟨hC, hM, hH⟩ := hI
  refine lv_aload_n hx hb dL_law_920 rfl (lv_at hl 1 rfl) ?_
  refine law_arg 921 1 hx hb hX hbl hbA hH.2 hl (by omega) hL dL_law_921 dL_law_922 dL_law_923 (by decide) dL_law_924 dL_law_925 ?_
  refine rc_Vi (rest := []) C0 FX hH 0 (by decide) hC.1.1 rfl (k_X5_bale l X ad FX.2.1 _ _ hC (xs (k + 1))) (cwV 1 hts gL_law_X5_bale rfl rfl rfl (by decide +kernel) ⟨(Nat.le_of_ble_eq_true rfl), (Nat.le_of_ble_eq_true rfl)⟩) rfl rfl hl.1 (Nat.le_of_ble_eq_true rfl) dL_law_926 ⟨(Nat.le_of_ble_eq_true rfl), (Nat.le_of_ble_eq_true rfl)⟩ (fun r1 g1 H1 locs1 h1 hH1 => ?_)
  obtain ⟨e1, hC, f1⟩ := h1
  have hM := hM.same f1
  refine lv_aload_n hx hb dL_law_929 rfl (lv_at hl 2 rfl) ?_
  refine law_arg 930 1 hx hb hX hbl hbA hH1.2 hl (by omega) hL dL_law_930 dL_law_931 dL_law_932 (by decide) dL_law_933 dL_law_934 ?_
  obtain ⟨fs6, h36⟩ := mod_g36 hM
  refine rc_Vi (rest := [.int r1]) C0 FX hH1 36 (by decide) h36 rfl (k_X6_bale l X ad FX.2.1 _ _ _ _ _ _ _ _ _ _ _ _ _ _ hM (xs (k + 1))) (cwV 1 hts gL_law_X6_bale rfl rfl rfl (by decide +kernel) ⟨(Nat.le_of_ble_eq_true rfl), (Nat.le_of_ble_eq_true rfl)⟩) rfl rfl hl.1 (Nat.le_of_ble_eq_true rfl) dL_law_935 ⟨(Nat.le_of_ble_eq_true rfl), (Nat.le_of_ble_eq_true rfl)⟩ (fun r2 g2 H2 locs2 h2 hH2 => ?_)
  obtain ⟨e2, hM, f2⟩ := h2
  have hC := hC.same f2
  refine lv_icmp_eq (tgt := 1082) hx hb dL_law_938 (by decide) (fun _ => ?_) (fun cc => absurd (e1.trans e2.symm) cc)
  exact KK _ _ _ _ ⟨hC, hM, hH2⟩
set_option maxHeartbeats 4000000 in
set_option maxRecDepth 100000 in
theorem law_c21 {p : Program} {l : Launch} {e : Env} {s : State} {m : MethodId} {below : List Frame} {meth : Method} {c : Code} {Q : State → Prop} {b L k : Nat} {xs : Nat → Int32} {X : Cx} {ad : Nat → Nat} {ls : Array Slot} (F : LawFix p s m c b L xs X ad) (hk : k + 6 ≤ L) (hl : lv_has ls 4 [(0, .ref b), (1, .ref (ad 0)), (2, .ref (ad 36)), (3, .int (nI k))]) (KK : ∀ (C : ClS) (g : PF) (H : Heap) (locs : List Loc), LawInv X ad s C g H locs → W p l e room_1 s m #[Value.ref b] below meth c H locs 48 7025 Q (F0 m 1082 ls [])) : ∀ (C : ClS) (g : PF) (H : Heap) (locs : List Loc), LawInv X ad s C g H locs → W p l e room_1 s m #[Value.ref b] below meth c H locs 48 7025 Q (F0 m 943 ls []) := by
  obtain ⟨C0, FX, hX, hbl, hL⟩ := F
  obtain ⟨hx, hb, hml, hown, hts⟩ := id C0
  have hbA : ¬ (fun q : Nat => s.heap.size ≤ q) b := Nat.not_le.mpr hbl
  intro C g H locs hI
  obtain ⟨⟨nm, fa, fb, mc, rd⟩, nr, ar, nb, num, lay, pev, pln, tr⟩ := C
  obtain ⟨hC, hM, hH⟩ := hI
  refine lv_aload_n hx hb dL_law_943 rfl (lv_at hl 1 rfl) ?_
  refine rc_Vi (rest := []) C0 FX hH 0 (by decide) hC.1.1 rfl (k_X5_clearBales l X ad FX.2.1 _ _ hC ) (cwV 0 hts gL_law_X5_clearBales rfl rfl rfl (by decide +kernel) ⟨(Nat.le_of_ble_eq_true rfl), (Nat.le_of_ble_eq_true rfl)⟩) rfl rfl hl.1 (Nat.le_of_ble_eq_true rfl) dL_law_944 ⟨(Nat.le_of_ble_eq_true rfl), (Nat.le_of_ble_eq_true rfl)⟩ (fun r1 g1 H1 locs1 h1 hH1 => ?_)
  obtain ⟨e1, hC, f1⟩ := h1
  have hM := hM.same f1
  refine lv_aload_n hx hb dL_law_947 rfl (lv_at hl 2 rfl) ?_
  obtain ⟨fs6, h36⟩ := mod_g36 hM
  refine rc_Vi (rest := [.int r1]) C0 FX hH1 36 (by decide) h36 rfl (k_X6_clearBales l X ad FX.2.1 _ _ _ _ _ _ _ _ _ _ _ _ _ _ hM ) (cwV 0 hts gL_law_X6_clearBales rfl rfl rfl (by decide +kernel) ⟨(Nat.le_of_ble_eq_true rfl), (Nat.le_of_ble_eq_true rfl)⟩) rfl rfl hl.1 (Nat.le_of_ble_eq_true rfl) dL_law_948 ⟨(Nat.le_of_ble_eq_true rfl), (Nat.le_of_ble_eq_true rfl)⟩ (fun r2 g2 H2 locs2 h2 hH2 => ?_)
  obtain ⟨e2, hM, f2⟩ := h2
  have hC := hC.same f2
  refine lv_icmp_eq (tgt := 1082) hx hb dL_law_951 (by decide) (fun _ => ?_) (fun cc => absurd (e1.trans e2.symm) cc)
  exact KK _ _ _ _ ⟨hC, hM, hH2⟩
set_option maxHeartbeats 4000000 in
set_option maxRecDepth 100000 in
theorem law_c22 {p : Program} {l : Launch} {e : Env} {s : State} {m : MethodId} {below : List Frame} {meth : Method} {c : Code} {Q : State → Prop} {b L k : Nat} {xs : Nat → Int32} {X : Cx} {ad : Nat → Nat} {ls : Array Slot} (F : LawFix p s m c b L xs X ad) (hk : k + 6 ≤ L) (hl : lv_has ls 4 [(0, .ref b), (1, .ref (ad 0)), (2, .ref (ad 36)), (3, .int (nI k))]) (KK : ∀ (C : ClS) (g : PF) (H : Heap) (locs : List Loc), LawInv X ad s C g H locs → W p l e room_1 s m #[Value.ref b] below meth c H locs 48 7025 Q (F0 m 1082 ls [])) : ∀ (C : ClS) (g : PF) (H : Heap) (locs : List Loc), LawInv X ad s C g H locs → W p l e room_1 s m #[Value.ref b] below meth c H locs 48 7025 Q (F0 m 956 ls []) := by
  obtain ⟨C0, FX, hX, hbl, hL⟩ := F
  obtain ⟨hx, hb, hml, hown, hts⟩ := id C0
  have hbA : ¬ (fun q : Nat => s.heap.size ≤ q) b := Nat.not_le.mpr hbl
  intro C g H locs hI
  obtain ⟨⟨nm, fa, fb, mc, rd⟩, nr, ar, nb, num, lay, pev, pln, tr⟩ := C
  obtain ⟨hC, hM, hH⟩ := hI
  refine lv_aload_n hx hb dL_law_956 rfl (lv_at hl 1 rfl) ?_
  refine law_arg 957 1 hx hb hX hbl hbA hH.2 hl (by omega) hL dL_law_957 dL_law_958 dL_law_959 (by decide) dL_law_960 dL_law_961 ?_
  refine law_arg 962 2 hx hb hX hbl hbA hH.2 hl (by omega) hL dL_law_962 dL_law_963 dL_law_964 (by decide) dL_law_965 dL_law_966 ?_
  refine law_arg 967 3 hx hb hX hbl hbA hH.2 hl (by omega) hL dL_law_967 dL_law_968 dL_law_969 (by decide) dL_law_970 dL_law_971 ?_
  refine rc_Vi (rest := []) C0 FX hH 0 (by decide) hC.1.1 rfl (k_X5_plan l X ad FX.2.1 _ _ hC (xs (k + 1)) (xs (k + 2)) (xs (k + 3))) (cwV 3 hts gL_law_X5_plan rfl rfl rfl (by decide +kernel) ⟨(Nat.le_of_ble_eq_true rfl), (Nat.le_of_ble_eq_true rfl)⟩) rfl rfl hl.1 (Nat.le_of_ble_eq_true rfl) dL_law_972 ⟨(Nat.le_of_ble_eq_true rfl), (Nat.le_of_ble_eq_true rfl)⟩ (fun r1 g1 H1 locs1 h1 hH1 => ?_)
  obtain ⟨e1, hC, f1⟩ := h1
  have hM := hM.same f1
  refine lv_aload_n hx hb dL_law_975 rfl (lv_at hl 2 rfl) ?_
  refine law_arg 976 1 hx hb hX hbl hbA hH1.2 hl (by omega) hL dL_law_976 dL_law_977 dL_law_978 (by decide) dL_law_979 dL_law_980 ?_
  refine law_arg 981 2 hx hb hX hbl hbA hH1.2 hl (by omega) hL dL_law_981 dL_law_982 dL_law_983 (by decide) dL_law_984 dL_law_985 ?_
  refine law_arg 986 3 hx hb hX hbl hbA hH1.2 hl (by omega) hL dL_law_986 dL_law_987 dL_law_988 (by decide) dL_law_989 dL_law_990 ?_
  obtain ⟨fs6, h36⟩ := mod_g36 hM
  refine rc_Vi (rest := [.int r1]) C0 FX hH1 36 (by decide) h36 rfl (k_X6_plan l X ad FX.2.1 _ _ _ _ _ _ _ _ _ _ _ _ _ _ hM (xs (k + 1)) (xs (k + 2)) (xs (k + 3))) (cwV 3 hts gL_law_X6_plan rfl rfl rfl (by decide +kernel) ⟨(Nat.le_of_ble_eq_true rfl), (Nat.le_of_ble_eq_true rfl)⟩) rfl rfl hl.1 (Nat.le_of_ble_eq_true rfl) dL_law_991 ⟨(Nat.le_of_ble_eq_true rfl), (Nat.le_of_ble_eq_true rfl)⟩ (fun r2 g2 H2 locs2 h2 hH2 => ?_)
  obtain ⟨e2, hM, f2⟩ := h2
  have hC := hC.same f2
  refine lv_icmp_eq (tgt := 1082) hx hb dL_law_994 (by decide) (fun _ => ?_) (fun cc => absurd (e1.trans e2.symm) cc)
  exact KK _ _ _ _ ⟨hC, hM, hH2⟩
set_option maxHeartbeats 4000000 in
set_option maxRecDepth 100000 in
theorem law_c23 {p : Program} {l : Launch} {e : Env} {s : State} {m : MethodId} {below : List Frame} {meth : Method} {c : Code} {Q : State → Prop} {b L k : Nat} {xs : Nat → Int32} {X : Cx} {ad : Nat → Nat} {ls : Array Slot} (F : LawFix p s m c b L xs X ad) (hk : k + 6 ≤ L) (hl : lv_has ls 4 [(0, .ref b), (1, .ref (ad 0)), (2, .ref (ad 36)), (3, .int (nI k))]) (KK : ∀ (C : ClS) (g : PF) (H : Heap) (locs : List Loc), LawInv X ad s C g H locs → W p l e room_1 s m #[Value.ref b] below meth c H locs 48 7025 Q (F0 m 1082 ls [])) : ∀ (C : ClS) (g : PF) (H : Heap) (locs : List Loc), LawInv X ad s C g H locs → W p l e room_1 s m #[Value.ref b] below meth c H locs 48 7025 Q (F0 m 999 ls []) := by
  obtain ⟨C0, FX, hX, hbl, hL⟩ := F
  obtain ⟨hx, hb, hml, hown, hts⟩ := id C0
  have hbA : ¬ (fun q : Nat => s.heap.size ≤ q) b := Nat.not_le.mpr hbl
  intro C g H locs hI
  obtain ⟨⟨nm, fa, fb, mc, rd⟩, nr, ar, nb, num, lay, pev, pln, tr⟩ := C
  obtain ⟨hC, hM, hH⟩ := hI
  refine lv_aload_n hx hb dL_law_999 rfl (lv_at hl 1 rfl) ?_
  refine law_arg 1000 1 hx hb hX hbl hbA hH.2 hl (by omega) hL dL_law_1000 dL_law_1001 dL_law_1002 (by decide) dL_law_1003 dL_law_1004 ?_
  refine law_arg 1005 2 hx hb hX hbl hbA hH.2 hl (by omega) hL dL_law_1005 dL_law_1006 dL_law_1007 (by decide) dL_law_1008 dL_law_1009 ?_
  refine rc_Vi (rest := []) C0 FX hH 0 (by decide) hC.1.1 rfl (k_X5_planAt l X ad FX.2.1 _ _ hC (xs (k + 1)) (xs (k + 2))) (cwV 2 hts gL_law_X5_planAt rfl rfl rfl (by decide +kernel) ⟨(Nat.le_of_ble_eq_true rfl), (Nat.le_of_ble_eq_true rfl)⟩) rfl rfl hl.1 (Nat.le_of_ble_eq_true rfl) dL_law_1010 ⟨(Nat.le_of_ble_eq_true rfl), (Nat.le_of_ble_eq_true rfl)⟩ (fun r1 g1 H1 locs1 h1 hH1 => ?_)
  obtain ⟨rfl, e1⟩ := h1
  refine lv_aload_n hx hb dL_law_1013 rfl (lv_at hl 2 rfl) ?_
  refine law_arg 1014 1 hx hb hX hbl hbA hH1.2 hl (by omega) hL dL_law_1014 dL_law_1015 dL_law_1016 (by decide) dL_law_1017 dL_law_1018 ?_
  refine law_arg 1019 2 hx hb hX hbl hbA hH1.2 hl (by omega) hL dL_law_1019 dL_law_1020 dL_law_1021 (by decide) dL_law_1022 dL_law_1023 ?_
  obtain ⟨fs6, h36⟩ := mod_g36 hM
  refine rc_Vi (rest := [.int r1]) C0 FX hH1 36 (by decide) h36 rfl (k_X6_planAt l X ad FX.2.1 _ _ _ _ _ _ _ _ _ _ _ _ _ _ hM (xs (k + 1)) (xs (k + 2))) (cwV 2 hts gL_law_X6_planAt rfl rfl rfl (by decide +kernel) ⟨(Nat.le_of_ble_eq_true rfl), (Nat.le_of_ble_eq_true rfl)⟩) rfl rfl hl.1 (Nat.le_of_ble_eq_true rfl) dL_law_1024 ⟨(Nat.le_of_ble_eq_true rfl), (Nat.le_of_ble_eq_true rfl)⟩ (fun r2 g2 H2 locs2 h2 hH2 => ?_)
  obtain ⟨rfl, e2⟩ := h2
  refine lv_icmp_eq (tgt := 1082) hx hb dL_law_1027 (by decide) (fun _ => ?_) (fun cc => absurd (e1.trans e2.symm) cc)
  exact KK _ _ _ _ ⟨hC, hM, hH2⟩
set_option maxHeartbeats 4000000 in
set_option maxRecDepth 100000 in
theorem law_c24 {p : Program} {l : Launch} {e : Env} {s : State} {m : MethodId} {below : List Frame} {meth : Method} {c : Code} {Q : State → Prop} {b L k : Nat} {xs : Nat → Int32} {X : Cx} {ad : Nat → Nat} {ls : Array Slot} (F : LawFix p s m c b L xs X ad) (hk : k + 6 ≤ L) (hl : lv_has ls 4 [(0, .ref b), (1, .ref (ad 0)), (2, .ref (ad 36)), (3, .int (nI k))]) (KK : ∀ (C : ClS) (g : PF) (H : Heap) (locs : List Loc), LawInv X ad s C g H locs → W p l e room_1 s m #[Value.ref b] below meth c H locs 48 7025 Q (F0 m 1082 ls [])) : ∀ (C : ClS) (g : PF) (H : Heap) (locs : List Loc), LawInv X ad s C g H locs → W p l e room_1 s m #[Value.ref b] below meth c H locs 48 7025 Q (F0 m 1032 ls []) := by
  obtain ⟨C0, FX, hX, hbl, hL⟩ := F
  obtain ⟨hx, hb, hml, hown, hts⟩ := id C0
  have hbA : ¬ (fun q : Nat => s.heap.size ≤ q) b := Nat.not_le.mpr hbl
  intro C g H locs hI
  obtain ⟨⟨nm, fa, fb, mc, rd⟩, nr, ar, nb, num, lay, pev, pln, tr⟩ := C
  obtain ⟨hC, hM, hH⟩ := hI
  refine lv_aload_n hx hb dL_law_1032 rfl (lv_at hl 1 rfl) ?_
  refine rc_Vi (rest := []) C0 FX hH 0 (by decide) hC.1.1 rfl (k_X5_tries l X ad FX.2.1 _ _ hC ) (cwV 0 hts gL_law_X5_tries rfl rfl rfl (by decide +kernel) ⟨(Nat.le_of_ble_eq_true rfl), (Nat.le_of_ble_eq_true rfl)⟩) rfl rfl hl.1 (Nat.le_of_ble_eq_true rfl) dL_law_1033 ⟨(Nat.le_of_ble_eq_true rfl), (Nat.le_of_ble_eq_true rfl)⟩ (fun r1 g1 H1 locs1 h1 hH1 => ?_)
  obtain ⟨rfl, e1⟩ := h1
  refine lv_aload_n hx hb dL_law_1036 rfl (lv_at hl 2 rfl) ?_
  obtain ⟨fs6, h36⟩ := mod_g36 hM
  refine rc_Vi (rest := [.int r1]) C0 FX hH1 36 (by decide) h36 rfl (k_X6_tries l X ad FX.2.1 _ _ _ _ _ _ _ _ _ _ _ _ _ _ hM ) (cwV 0 hts gL_law_X6_tries rfl rfl rfl (by decide +kernel) ⟨(Nat.le_of_ble_eq_true rfl), (Nat.le_of_ble_eq_true rfl)⟩) rfl rfl hl.1 (Nat.le_of_ble_eq_true rfl) dL_law_1037 ⟨(Nat.le_of_ble_eq_true rfl), (Nat.le_of_ble_eq_true rfl)⟩ (fun r2 g2 H2 locs2 h2 hH2 => ?_)
  obtain ⟨rfl, e2⟩ := h2
  refine lv_icmp_eq (tgt := 1082) hx hb dL_law_1040 (by decide) (fun _ => ?_) (fun cc => absurd (e1.trans e2.symm) cc)
  exact KK _ _ _ _ ⟨hC, hM, hH2⟩
set_option maxHeartbeats 4000000 in
set_option maxRecDepth 100000 in
theorem law_c25 {p : Program} {l : Launch} {e : Env} {s : State} {m : MethodId} {below : List Frame} {meth : Method} {c : Code} {Q : State → Prop} {b L k : Nat} {xs : Nat → Int32} {X : Cx} {ad : Nat → Nat} {ls : Array Slot} (F : LawFix p s m c b L xs X ad) (hk : k + 6 ≤ L) (hl : lv_has ls 4 [(0, .ref b), (1, .ref (ad 0)), (2, .ref (ad 36)), (3, .int (nI k))]) (KK : ∀ (C : ClS) (g : PF) (H : Heap) (locs : List Loc), LawInv X ad s C g H locs → W p l e room_1 s m #[Value.ref b] below meth c H locs 48 7025 Q (F0 m 1082 ls [])) : ∀ (C : ClS) (g : PF) (H : Heap) (locs : List Loc), LawInv X ad s C g H locs → W p l e room_1 s m #[Value.ref b] below meth c H locs 48 7025 Q (F0 m 1045 ls []) := by
  obtain ⟨C0, FX, hX, hbl, hL⟩ := F
  obtain ⟨hx, hb, hml, hown, hts⟩ := id C0
  have hbA : ¬ (fun q : Nat => s.heap.size ≤ q) b := Nat.not_le.mpr hbl
  intro C g H locs hI
  obtain ⟨⟨nm, fa, fb, mc, rd⟩, nr, ar, nb, num, lay, pev, pln, tr⟩ := C
  obtain ⟨hC, hM, hH⟩ := hI
  refine lv_aload_n hx hb dL_law_1045 rfl (lv_at hl 1 rfl) ?_
  refine law_arg 1046 1 hx hb hX hbl hbA hH.2 hl (by omega) hL dL_law_1046 dL_law_1047 dL_law_1048 (by decide) dL_law_1049 dL_law_1050 ?_
  refine rc_Vi (rest := []) C0 FX hH 0 (by decide) hC.1.1 rfl (k_X5_many l X ad FX.2.1 _ _ hC (xs (k + 1))) (cwV 1 hts gL_law_X5_many rfl rfl rfl (by decide +kernel) ⟨(Nat.le_of_ble_eq_true rfl), (Nat.le_of_ble_eq_true rfl)⟩) rfl rfl hl.1 (Nat.le_of_ble_eq_true rfl) dL_law_1051 ⟨(Nat.le_of_ble_eq_true rfl), (Nat.le_of_ble_eq_true rfl)⟩ (fun r1 g1 H1 locs1 h1 hH1 => ?_)
  obtain ⟨rfl, e1⟩ := h1
  refine lv_aload_n hx hb dL_law_1054 rfl (lv_at hl 2 rfl) ?_
  refine law_arg 1055 1 hx hb hX hbl hbA hH1.2 hl (by omega) hL dL_law_1055 dL_law_1056 dL_law_1057 (by decide) dL_law_1058 dL_law_1059 ?_
  obtain ⟨fs6, h36⟩ := mod_g36 hM
  refine rc_Vi (rest := [.int r1]) C0 FX hH1 36 (by decide) h36 rfl (k_X6_many l X ad FX.2.1 _ _ _ _ _ _ _ _ _ _ _ _ _ _ hM (xs (k + 1))) (cwV 1 hts gL_law_X6_many rfl rfl rfl (by decide +kernel) ⟨(Nat.le_of_ble_eq_true rfl), (Nat.le_of_ble_eq_true rfl)⟩) rfl rfl hl.1 (Nat.le_of_ble_eq_true rfl) dL_law_1060 ⟨(Nat.le_of_ble_eq_true rfl), (Nat.le_of_ble_eq_true rfl)⟩ (fun r2 g2 H2 locs2 h2 hH2 => ?_)
  obtain ⟨rfl, e2⟩ := h2
  refine lv_icmp_eq (tgt := 1082) hx hb dL_law_1063 (by decide) (fun _ => ?_) (fun cc => absurd (e1.trans e2.symm) cc)
  exact KK _ _ _ _ ⟨hC, hM, hH2⟩
set_option maxHeartbeats 4000000 in
set_option maxRecDepth 100000 in
theorem law_c26 {p : Program} {l : Launch} {e : Env} {s : State} {m : MethodId} {below : List Frame} {meth : Method} {c : Code} {Q : State → Prop} {b L k : Nat} {xs : Nat → Int32} {X : Cx} {ad : Nat → Nat} {ls : Array Slot} (F : LawFix p s m c b L xs X ad) (hk : k + 6 ≤ L) (hl : lv_has ls 4 [(0, .ref b), (1, .ref (ad 0)), (2, .ref (ad 36)), (3, .int (nI k))]) (KK : ∀ (C : ClS) (g : PF) (H : Heap) (locs : List Loc), LawInv X ad s C g H locs → W p l e room_1 s m #[Value.ref b] below meth c H locs 48 7025 Q (F0 m 1082 ls [])) : ∀ (C : ClS) (g : PF) (H : Heap) (locs : List Loc), LawInv X ad s C g H locs → W p l e room_1 s m #[Value.ref b] below meth c H locs 48 7025 Q (F0 m 1068 ls []) := by
  obtain ⟨C0, FX, hX, hbl, hL⟩ := F
  obtain ⟨hx, hb, hml, hown, hts⟩ := id C0
  have hbA : ¬ (fun q : Nat => s.heap.size ≤ q) b := Nat.not_le.mpr hbl
  intro C g H locs hI
  obtain ⟨⟨nm, fa, fb, mc, rd⟩, nr, ar, nb, num, lay, pev, pln, tr⟩ := C
  obtain ⟨hC, hM, hH⟩ := hI
  refine lv_aload_n hx hb dL_law_1068 rfl (lv_at hl 1 rfl) ?_
  refine rc_Vl (rest := []) C0 FX hH 0 (by decide) hC.1.1 rfl (k_X5_digest l X ad FX.2.1 _ _ hC ) (cwV 0 hts gL_law_X5_digest rfl rfl rfl (by decide +kernel) ⟨(Nat.le_of_ble_eq_true rfl), (Nat.le_of_ble_eq_true rfl)⟩) rfl rfl hl.1 (Nat.le_of_ble_eq_true rfl) dL_law_1069 ⟨(Nat.le_of_ble_eq_true rfl), (Nat.le_of_ble_eq_true rfl)⟩ (fun r1 g1 H1 locs1 h1 hH1 => ?_)
  obtain ⟨e1, hC, f1⟩ := h1
  have hM := hM.same f1
  refine lv_aload_n hx hb dL_law_1072 rfl (lv_at hl 2 rfl) ?_
  obtain ⟨fs6, h36⟩ := mod_g36 hM
  refine rc_Vl (rest := [.long r1]) C0 FX hH1 36 (by decide) h36 rfl (k_X6_digest l X ad FX.2.1 _ _ _ _ _ _ _ _ _ _ _ _ _ _ hM ) (cwV 0 hts gL_law_X6_digest rfl rfl rfl (by decide +kernel) ⟨(Nat.le_of_ble_eq_true rfl), (Nat.le_of_ble_eq_true rfl)⟩) rfl rfl hl.1 (Nat.le_of_ble_eq_true rfl) dL_law_1073 ⟨(Nat.le_of_ble_eq_true rfl), (Nat.le_of_ble_eq_true rfl)⟩ (fun r2 g2 H2 locs2 h2 hH2 => ?_)
  obtain ⟨rfl, e2⟩ := h2
  refine lc_eq hx hb 1082 dL_law_1076 dL_law_1077 (by decide) (fun _ => ?_) (fun cc => absurd (e1.trans e2.symm) cc)
  exact KK _ _ _ _ ⟨hC, hM, hH2⟩
