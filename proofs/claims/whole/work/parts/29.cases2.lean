set_option maxHeartbeats 4000000 in
set_option maxRecDepth 100000 in
theorem zh_end {p : Program} {l : Launch} {e : Env} {R : Room} {s : State} {m : MethodId} {args : Array Value} {below : List Frame} {meth : Method} {c : Code} {H : Heap} {locs : List Loc} {cells slots : Nat} {Q : State → Prop} {ls : Array Slot} {A : Nat → Prop} {G : zw_G} {b b0 b1 L i N : Nat} {xs : Nat → Int32} {S : zs_S} {T : zs_T} (F : CallFix p m c code 4 s args zw_WS "TwinLedgersLaw") (hE : zw_E G s) (hX : va_X b L xs s s.heap) (hbl : b < s.heap.size) (hbA : ¬ A b) (hL : L < 2 ^ 31) (hR : 8 ≤ R.frames ∧ 207 ≤ R.locals) (hcs : cells ≤ R.cells ∧ slots ≤ R.slots) (hb : b1 = b0 + 176) (hA : ∀ q, b0 ≤ q → A q) (hi : i + 6 ≤ L) (hN : N < 512) (h : zl_R N S T) (hP : va_P G.1 zw_cl (zw_l b0 176 (zp_p G b0 S)) H) (hP2 : va_P G.1 zw_cl (zw_l b1 26 (zq_p G b1 T)) H) (hS : va_S A s.heap H locs) (hl : lv_has ls 4 (zg_lv i b1 b0 b)) (kk : ∀ (S' : zs_S) (T' : zs_T) (H1 : Heap) (locs1 : List Loc), zl_R (N + 1) S' T' → va_P G.1 zw_cl (zw_l b0 176 (zp_p G b0 S')) H1 → va_P G.1 zw_cl (zw_l b1 26 (zq_p G b1 T')) H1 → va_S A s.heap H1 locs1 → W p l e R s m args below meth c H1 locs1 cells slots Q (F0 m 1066 ls [])) : W p l e R s m args below meth c H locs cells slots Q (F0 m 818 ls []) := by
  obtain ⟨r, S', T', hC, hT, h'⟩ := zf_end (lc := l) (G := G) (b0 := b0) (b1 := b1) h (xs (i + 1)) (xs (i + 2)) (xs (i + 3))
  refine lv_aload_n F.1 F.2.1 dd_Law_law_818 rfl (lv_at hl 2 rfl) ?_
  refine zg_arg (n := 1) F hX hbl hbA hS hl hL dd_Law_law_819 dd_Law_law_820 dd_Law_law_821 (by decide) dd_Law_law_822 dd_Law_law_823 (by omega) ?_
  refine zg_arg (n := 2) F hX hbl hbA hS hl hL dd_Law_law_824 dd_Law_law_825 dd_Law_law_826 (by decide) dd_Law_law_827 dd_Law_law_828 (by omega) ?_
  refine zg_arg (n := 3) F hX hbl hbA hS hl hL dd_Law_law_829 dd_Law_law_830 dd_Law_law_831 (by decide) dd_Law_law_832 dd_Law_law_833 (by omega) ?_
  refine zg_C F hE hP hP2 hC zk_TL_end za_TL_end zb_TL_end wl_Law_87 rfl (by decide) hR hcs hb (fun q z => hA q z.1) hS hl.1 rfl dd_Law_law_834 (fun H locs hP hP2 hS => ?_)
  refine lv_aload_n F.1 F.2.1 dd_Law_law_837 rfl (lv_at hl 1 rfl) ?_
  refine zg_arg (n := 1) F hX hbl hbA hS hl hL dd_Law_law_838 dd_Law_law_839 dd_Law_law_840 (by decide) dd_Law_law_841 dd_Law_law_842 (by omega) ?_
  refine zg_arg (n := 2) F hX hbl hbA hS hl hL dd_Law_law_843 dd_Law_law_844 dd_Law_law_845 (by decide) dd_Law_law_846 dd_Law_law_847 (by omega) ?_
  refine zg_arg (n := 3) F hX hbl hbA hS hl hL dd_Law_law_848 dd_Law_law_849 dd_Law_law_850 (by decide) dd_Law_law_851 dd_Law_law_852 (by omega) ?_
  refine zg_T F hE hP hP2 hT zk_Mo_end za_Mo_end zb_Mo_end wl_Law_91 rfl (by decide) hR hcs hb (fun q z => hA q (by have := z.1; omega)) hS hl.1 rfl dd_Law_law_853 (fun H locs hP hP2 hS => ?_)
  refine lv_icmp_eq F.1 F.2.1 dd_Law_law_856 (tgt := 1066) rfl (fun _ => ?_) (fun z => absurd rfl z)
  exact kk S' T' H locs h' hP hP2 hS
set_option maxHeartbeats 4000000 in
set_option maxRecDepth 100000 in
theorem zh_packet {p : Program} {l : Launch} {e : Env} {R : Room} {s : State} {m : MethodId} {args : Array Value} {below : List Frame} {meth : Method} {c : Code} {H : Heap} {locs : List Loc} {cells slots : Nat} {Q : State → Prop} {ls : Array Slot} {A : Nat → Prop} {G : zw_G} {b b0 b1 L i N : Nat} {xs : Nat → Int32} {S : zs_S} {T : zs_T} (F : CallFix p m c code 4 s args zw_WS "TwinLedgersLaw") (hE : zw_E G s) (hX : va_X b L xs s s.heap) (hbl : b < s.heap.size) (hbA : ¬ A b) (hL : L < 2 ^ 31) (hR : 8 ≤ R.frames ∧ 207 ≤ R.locals) (hcs : cells ≤ R.cells ∧ slots ≤ R.slots) (hb : b1 = b0 + 176) (hA : ∀ q, b0 ≤ q → A q) (hi : i + 6 ≤ L) (hN : N < 512) (h : zl_R N S T) (hP : va_P G.1 zw_cl (zw_l b0 176 (zp_p G b0 S)) H) (hP2 : va_P G.1 zw_cl (zw_l b1 26 (zq_p G b1 T)) H) (hS : va_S A s.heap H locs) (hl : lv_has ls 4 (zg_lv i b1 b0 b)) (kk : ∀ (S' : zs_S) (T' : zs_T) (H1 : Heap) (locs1 : List Loc), zl_R (N + 1) S' T' → va_P G.1 zw_cl (zw_l b0 176 (zp_p G b0 S')) H1 → va_P G.1 zw_cl (zw_l b1 26 (zq_p G b1 T')) H1 → va_S A s.heap H1 locs1 → W p l e R s m args below meth c H1 locs1 cells slots Q (F0 m 1066 ls [])) : W p l e R s m args below meth c H locs cells slots Q (F0 m 861 ls []) := by
  obtain ⟨r, S', T', hC, hT, h'⟩ := zf_packet (lc := l) (G := G) (b0 := b0) (b1 := b1) h (xs (i + 1)) (xs (i + 2)) (xs (i + 3))
  refine lv_aload_n F.1 F.2.1 dd_Law_law_861 rfl (lv_at hl 2 rfl) ?_
  refine zg_arg (n := 1) F hX hbl hbA hS hl hL dd_Law_law_862 dd_Law_law_863 dd_Law_law_864 (by decide) dd_Law_law_865 dd_Law_law_866 (by omega) ?_
  refine zg_arg (n := 2) F hX hbl hbA hS hl hL dd_Law_law_867 dd_Law_law_868 dd_Law_law_869 (by decide) dd_Law_law_870 dd_Law_law_871 (by omega) ?_
  refine zg_arg (n := 3) F hX hbl hbA hS hl hL dd_Law_law_872 dd_Law_law_873 dd_Law_law_874 (by decide) dd_Law_law_875 dd_Law_law_876 (by omega) ?_
  refine zg_C F hE hP hP2 hC zk_TL_packet za_TL_packet zb_TL_packet wl_Law_92 rfl (by decide) hR hcs hb (fun q z => hA q z.1) hS hl.1 rfl dd_Law_law_877 (fun H locs hP hP2 hS => ?_)
  refine lv_aload_n F.1 F.2.1 dd_Law_law_880 rfl (lv_at hl 1 rfl) ?_
  refine zg_arg (n := 1) F hX hbl hbA hS hl hL dd_Law_law_881 dd_Law_law_882 dd_Law_law_883 (by decide) dd_Law_law_884 dd_Law_law_885 (by omega) ?_
  refine zg_arg (n := 2) F hX hbl hbA hS hl hL dd_Law_law_886 dd_Law_law_887 dd_Law_law_888 (by decide) dd_Law_law_889 dd_Law_law_890 (by omega) ?_
  refine zg_arg (n := 3) F hX hbl hbA hS hl hL dd_Law_law_891 dd_Law_law_892 dd_Law_law_893 (by decide) dd_Law_law_894 dd_Law_law_895 (by omega) ?_
  refine zg_T F hE hP hP2 hT zk_Mo_packet za_Mo_packet zb_Mo_packet wl_Law_95 rfl (by decide) hR hcs hb (fun q z => hA q (by have := z.1; omega)) hS hl.1 rfl dd_Law_law_896 (fun H locs hP hP2 hS => ?_)
  refine lv_icmp_eq F.1 F.2.1 dd_Law_law_899 (tgt := 1066) rfl (fun _ => ?_) (fun z => absurd rfl z)
  exact kk S' T' H locs h' hP hP2 hS
set_option maxHeartbeats 4000000 in
set_option maxRecDepth 100000 in
theorem zh_limit {p : Program} {l : Launch} {e : Env} {R : Room} {s : State} {m : MethodId} {args : Array Value} {below : List Frame} {meth : Method} {c : Code} {H : Heap} {locs : List Loc} {cells slots : Nat} {Q : State → Prop} {ls : Array Slot} {A : Nat → Prop} {G : zw_G} {b b0 b1 L i N : Nat} {xs : Nat → Int32} {S : zs_S} {T : zs_T} (F : CallFix p m c code 4 s args zw_WS "TwinLedgersLaw") (hE : zw_E G s) (hX : va_X b L xs s s.heap) (hbl : b < s.heap.size) (hbA : ¬ A b) (hL : L < 2 ^ 31) (hR : 8 ≤ R.frames ∧ 207 ≤ R.locals) (hcs : cells ≤ R.cells ∧ slots ≤ R.slots) (hb : b1 = b0 + 176) (hA : ∀ q, b0 ≤ q → A q) (hi : i + 6 ≤ L) (hN : N < 512) (h : zl_R N S T) (hP : va_P G.1 zw_cl (zw_l b0 176 (zp_p G b0 S)) H) (hP2 : va_P G.1 zw_cl (zw_l b1 26 (zq_p G b1 T)) H) (hS : va_S A s.heap H locs) (hl : lv_has ls 4 (zg_lv i b1 b0 b)) (kk : ∀ (S' : zs_S) (T' : zs_T) (H1 : Heap) (locs1 : List Loc), zl_R (N + 1) S' T' → va_P G.1 zw_cl (zw_l b0 176 (zp_p G b0 S')) H1 → va_P G.1 zw_cl (zw_l b1 26 (zq_p G b1 T')) H1 → va_S A s.heap H1 locs1 → W p l e R s m args below meth c H1 locs1 cells slots Q (F0 m 1066 ls [])) : W p l e R s m args below meth c H locs cells slots Q (F0 m 904 ls []) := by
  obtain ⟨r, S', T', hC, hT, h'⟩ := zf_limit (lc := l) (G := G) (b0 := b0) (b1 := b1) h (xs (i + 1)) (xs (i + 2)) (xs (i + 3))
  refine lv_aload_n F.1 F.2.1 dd_Law_law_904 rfl (lv_at hl 2 rfl) ?_
  refine zg_arg (n := 1) F hX hbl hbA hS hl hL dd_Law_law_905 dd_Law_law_906 dd_Law_law_907 (by decide) dd_Law_law_908 dd_Law_law_909 (by omega) ?_
  refine zg_arg (n := 2) F hX hbl hbA hS hl hL dd_Law_law_910 dd_Law_law_911 dd_Law_law_912 (by decide) dd_Law_law_913 dd_Law_law_914 (by omega) ?_
  refine zg_arg (n := 3) F hX hbl hbA hS hl hL dd_Law_law_915 dd_Law_law_916 dd_Law_law_917 (by decide) dd_Law_law_918 dd_Law_law_919 (by omega) ?_
  refine zg_C F hE hP hP2 hC zk_TL_limit za_TL_limit zb_TL_limit wl_Law_96 rfl (by decide) hR hcs hb (fun q z => hA q z.1) hS hl.1 rfl dd_Law_law_920 (fun H locs hP hP2 hS => ?_)
  refine lv_aload_n F.1 F.2.1 dd_Law_law_923 rfl (lv_at hl 1 rfl) ?_
  refine zg_arg (n := 1) F hX hbl hbA hS hl hL dd_Law_law_924 dd_Law_law_925 dd_Law_law_926 (by decide) dd_Law_law_927 dd_Law_law_928 (by omega) ?_
  refine zg_arg (n := 2) F hX hbl hbA hS hl hL dd_Law_law_929 dd_Law_law_930 dd_Law_law_931 (by decide) dd_Law_law_932 dd_Law_law_933 (by omega) ?_
  refine zg_arg (n := 3) F hX hbl hbA hS hl hL dd_Law_law_934 dd_Law_law_935 dd_Law_law_936 (by decide) dd_Law_law_937 dd_Law_law_938 (by omega) ?_
  refine zg_T F hE hP hP2 hT zk_Mo_limit za_Mo_limit zb_Mo_limit wl_Law_99 rfl (by decide) hR hcs hb (fun q z => hA q (by have := z.1; omega)) hS hl.1 rfl dd_Law_law_939 (fun H locs hP hP2 hS => ?_)
  refine lv_icmp_eq F.1 F.2.1 dd_Law_law_942 (tgt := 1066) rfl (fun _ => ?_) (fun z => absurd rfl z)
  exact kk S' T' H locs h' hP hP2 hS
set_option maxHeartbeats 4000000 in
set_option maxRecDepth 100000 in
theorem zh_balance {p : Program} {l : Launch} {e : Env} {R : Room} {s : State} {m : MethodId} {args : Array Value} {below : List Frame} {meth : Method} {c : Code} {H : Heap} {locs : List Loc} {cells slots : Nat} {Q : State → Prop} {ls : Array Slot} {A : Nat → Prop} {G : zw_G} {b b0 b1 L i N : Nat} {xs : Nat → Int32} {S : zs_S} {T : zs_T} (F : CallFix p m c code 4 s args zw_WS "TwinLedgersLaw") (hE : zw_E G s) (hX : va_X b L xs s s.heap) (hbl : b < s.heap.size) (hbA : ¬ A b) (hL : L < 2 ^ 31) (hR : 8 ≤ R.frames ∧ 207 ≤ R.locals) (hcs : cells ≤ R.cells ∧ slots ≤ R.slots) (hb : b1 = b0 + 176) (hA : ∀ q, b0 ≤ q → A q) (hi : i + 6 ≤ L) (hN : N < 512) (h : zl_R N S T) (hP : va_P G.1 zw_cl (zw_l b0 176 (zp_p G b0 S)) H) (hP2 : va_P G.1 zw_cl (zw_l b1 26 (zq_p G b1 T)) H) (hS : va_S A s.heap H locs) (hl : lv_has ls 4 (zg_lv i b1 b0 b)) (kk : ∀ (S' : zs_S) (T' : zs_T) (H1 : Heap) (locs1 : List Loc), zl_R (N + 1) S' T' → va_P G.1 zw_cl (zw_l b0 176 (zp_p G b0 S')) H1 → va_P G.1 zw_cl (zw_l b1 26 (zq_p G b1 T')) H1 → va_S A s.heap H1 locs1 → W p l e R s m args below meth c H1 locs1 cells slots Q (F0 m 1066 ls [])) : W p l e R s m args below meth c H locs cells slots Q (F0 m 947 ls []) := by
  obtain ⟨r, S', T', hC, hT, h'⟩ := zf_balance (lc := l) (G := G) (b0 := b0) (b1 := b1) h (xs (i + 1)) (xs (i + 2)) (xs (i + 3))
  refine lv_aload_n F.1 F.2.1 dd_Law_law_947 rfl (lv_at hl 2 rfl) ?_
  refine zg_arg (n := 1) F hX hbl hbA hS hl hL dd_Law_law_948 dd_Law_law_949 dd_Law_law_950 (by decide) dd_Law_law_951 dd_Law_law_952 (by omega) ?_
  refine zg_arg (n := 2) F hX hbl hbA hS hl hL dd_Law_law_953 dd_Law_law_954 dd_Law_law_955 (by decide) dd_Law_law_956 dd_Law_law_957 (by omega) ?_
  refine zg_arg (n := 3) F hX hbl hbA hS hl hL dd_Law_law_958 dd_Law_law_959 dd_Law_law_960 (by decide) dd_Law_law_961 dd_Law_law_962 (by omega) ?_
  refine zg_C F hE hP hP2 hC zk_TL_balance za_TL_balance zb_TL_balance wl_Law_100 rfl (by decide) hR hcs hb (fun q z => hA q z.1) hS hl.1 rfl dd_Law_law_963 (fun H locs hP hP2 hS => ?_)
  refine lv_aload_n F.1 F.2.1 dd_Law_law_966 rfl (lv_at hl 1 rfl) ?_
  refine zg_arg (n := 1) F hX hbl hbA hS hl hL dd_Law_law_967 dd_Law_law_968 dd_Law_law_969 (by decide) dd_Law_law_970 dd_Law_law_971 (by omega) ?_
  refine zg_arg (n := 2) F hX hbl hbA hS hl hL dd_Law_law_972 dd_Law_law_973 dd_Law_law_974 (by decide) dd_Law_law_975 dd_Law_law_976 (by omega) ?_
  refine zg_arg (n := 3) F hX hbl hbA hS hl hL dd_Law_law_977 dd_Law_law_978 dd_Law_law_979 (by decide) dd_Law_law_980 dd_Law_law_981 (by omega) ?_
  refine zg_T F hE hP hP2 hT zk_Mo_balance za_Mo_balance zb_Mo_balance wl_Law_103 rfl (by decide) hR hcs hb (fun q z => hA q (by have := z.1; omega)) hS hl.1 rfl dd_Law_law_982 (fun H locs hP hP2 hS => ?_)
  refine lv_icmp_eq F.1 F.2.1 dd_Law_law_985 (tgt := 1066) rfl (fun _ => ?_) (fun z => absurd rfl z)
  exact kk S' T' H locs h' hP hP2 hS
set_option maxHeartbeats 4000000 in
set_option maxRecDepth 100000 in
theorem zh_escrow {p : Program} {l : Launch} {e : Env} {R : Room} {s : State} {m : MethodId} {args : Array Value} {below : List Frame} {meth : Method} {c : Code} {H : Heap} {locs : List Loc} {cells slots : Nat} {Q : State → Prop} {ls : Array Slot} {A : Nat → Prop} {G : zw_G} {b b0 b1 L i N : Nat} {xs : Nat → Int32} {S : zs_S} {T : zs_T} (F : CallFix p m c code 4 s args zw_WS "TwinLedgersLaw") (hE : zw_E G s) (hX : va_X b L xs s s.heap) (hbl : b < s.heap.size) (hbA : ¬ A b) (hL : L < 2 ^ 31) (hR : 8 ≤ R.frames ∧ 207 ≤ R.locals) (hcs : cells ≤ R.cells ∧ slots ≤ R.slots) (hb : b1 = b0 + 176) (hA : ∀ q, b0 ≤ q → A q) (hi : i + 6 ≤ L) (hN : N < 512) (h : zl_R N S T) (hP : va_P G.1 zw_cl (zw_l b0 176 (zp_p G b0 S)) H) (hP2 : va_P G.1 zw_cl (zw_l b1 26 (zq_p G b1 T)) H) (hS : va_S A s.heap H locs) (hl : lv_has ls 4 (zg_lv i b1 b0 b)) (kk : ∀ (S' : zs_S) (T' : zs_T) (H1 : Heap) (locs1 : List Loc), zl_R (N + 1) S' T' → va_P G.1 zw_cl (zw_l b0 176 (zp_p G b0 S')) H1 → va_P G.1 zw_cl (zw_l b1 26 (zq_p G b1 T')) H1 → va_S A s.heap H1 locs1 → W p l e R s m args below meth c H1 locs1 cells slots Q (F0 m 1066 ls [])) : W p l e R s m args below meth c H locs cells slots Q (F0 m 990 ls []) := by
  obtain ⟨r, S', T', hC, hT, h'⟩ := zf_escrow (lc := l) (G := G) (b0 := b0) (b1 := b1) h (xs (i + 1)) (xs (i + 2)) (xs (i + 3))
  refine lv_aload_n F.1 F.2.1 dd_Law_law_990 rfl (lv_at hl 2 rfl) ?_
  refine zg_arg (n := 1) F hX hbl hbA hS hl hL dd_Law_law_991 dd_Law_law_992 dd_Law_law_993 (by decide) dd_Law_law_994 dd_Law_law_995 (by omega) ?_
  refine zg_arg (n := 2) F hX hbl hbA hS hl hL dd_Law_law_996 dd_Law_law_997 dd_Law_law_998 (by decide) dd_Law_law_999 dd_Law_law_1000 (by omega) ?_
  refine zg_arg (n := 3) F hX hbl hbA hS hl hL dd_Law_law_1001 dd_Law_law_1002 dd_Law_law_1003 (by decide) dd_Law_law_1004 dd_Law_law_1005 (by omega) ?_
  refine zg_C F hE hP hP2 hC zk_TL_escrow za_TL_escrow zb_TL_escrow wl_Law_104 rfl (by decide) hR hcs hb (fun q z => hA q z.1) hS hl.1 rfl dd_Law_law_1006 (fun H locs hP hP2 hS => ?_)
  refine lv_aload_n F.1 F.2.1 dd_Law_law_1009 rfl (lv_at hl 1 rfl) ?_
  refine zg_arg (n := 1) F hX hbl hbA hS hl hL dd_Law_law_1010 dd_Law_law_1011 dd_Law_law_1012 (by decide) dd_Law_law_1013 dd_Law_law_1014 (by omega) ?_
  refine zg_arg (n := 2) F hX hbl hbA hS hl hL dd_Law_law_1015 dd_Law_law_1016 dd_Law_law_1017 (by decide) dd_Law_law_1018 dd_Law_law_1019 (by omega) ?_
  refine zg_arg (n := 3) F hX hbl hbA hS hl hL dd_Law_law_1020 dd_Law_law_1021 dd_Law_law_1022 (by decide) dd_Law_law_1023 dd_Law_law_1024 (by omega) ?_
  refine zg_T F hE hP hP2 hT zk_Mo_escrow za_Mo_escrow zb_Mo_escrow wl_Law_107 rfl (by decide) hR hcs hb (fun q z => hA q (by have := z.1; omega)) hS hl.1 rfl dd_Law_law_1025 (fun H locs hP hP2 hS => ?_)
  refine lv_icmp_eq F.1 F.2.1 dd_Law_law_1028 (tgt := 1066) rfl (fun _ => ?_) (fun z => absurd rfl z)
  exact kk S' T' H locs h' hP hP2 hS
set_option maxHeartbeats 4000000 in
set_option maxRecDepth 100000 in
theorem zh_voucher {p : Program} {l : Launch} {e : Env} {R : Room} {s : State} {m : MethodId} {args : Array Value} {below : List Frame} {meth : Method} {c : Code} {H : Heap} {locs : List Loc} {cells slots : Nat} {Q : State → Prop} {ls : Array Slot} {A : Nat → Prop} {G : zw_G} {b b0 b1 L i N : Nat} {xs : Nat → Int32} {S : zs_S} {T : zs_T} (F : CallFix p m c code 4 s args zw_WS "TwinLedgersLaw") (hE : zw_E G s) (hX : va_X b L xs s s.heap) (hbl : b < s.heap.size) (hbA : ¬ A b) (hL : L < 2 ^ 31) (hR : 8 ≤ R.frames ∧ 207 ≤ R.locals) (hcs : cells ≤ R.cells ∧ slots ≤ R.slots) (hb : b1 = b0 + 176) (hA : ∀ q, b0 ≤ q → A q) (hi : i + 6 ≤ L) (hN : N < 512) (h : zl_R N S T) (hP : va_P G.1 zw_cl (zw_l b0 176 (zp_p G b0 S)) H) (hP2 : va_P G.1 zw_cl (zw_l b1 26 (zq_p G b1 T)) H) (hS : va_S A s.heap H locs) (hl : lv_has ls 4 (zg_lv i b1 b0 b)) (kk : ∀ (S' : zs_S) (T' : zs_T) (H1 : Heap) (locs1 : List Loc), zl_R (N + 1) S' T' → va_P G.1 zw_cl (zw_l b0 176 (zp_p G b0 S')) H1 → va_P G.1 zw_cl (zw_l b1 26 (zq_p G b1 T')) H1 → va_S A s.heap H1 locs1 → W p l e R s m args below meth c H1 locs1 cells slots Q (F0 m 1066 ls [])) : W p l e R s m args below meth c H locs cells slots Q (F0 m 1033 ls []) := by
  obtain ⟨r, S', T', hC, hT, h'⟩ := zf_voucher (lc := l) (G := G) (b0 := b0) (b1 := b1) h (xs (i + 1)) (xs (i + 2))
  refine lv_aload_n F.1 F.2.1 dd_Law_law_1033 rfl (lv_at hl 2 rfl) ?_
  refine zg_arg (n := 1) F hX hbl hbA hS hl hL dd_Law_law_1034 dd_Law_law_1035 dd_Law_law_1036 (by decide) dd_Law_law_1037 dd_Law_law_1038 (by omega) ?_
  refine zg_arg (n := 2) F hX hbl hbA hS hl hL dd_Law_law_1039 dd_Law_law_1040 dd_Law_law_1041 (by decide) dd_Law_law_1042 dd_Law_law_1043 (by omega) ?_
  refine zg_C F hE hP hP2 hC zk_TL_voucher za_TL_voucher zb_TL_voucher wl_Law_108 rfl (by decide) hR hcs hb (fun q z => hA q z.1) hS hl.1 rfl dd_Law_law_1044 (fun H locs hP hP2 hS => ?_)
  refine lv_aload_n F.1 F.2.1 dd_Law_law_1047 rfl (lv_at hl 1 rfl) ?_
  refine zg_arg (n := 1) F hX hbl hbA hS hl hL dd_Law_law_1048 dd_Law_law_1049 dd_Law_law_1050 (by decide) dd_Law_law_1051 dd_Law_law_1052 (by omega) ?_
  refine zg_arg (n := 2) F hX hbl hbA hS hl hL dd_Law_law_1053 dd_Law_law_1054 dd_Law_law_1055 (by decide) dd_Law_law_1056 dd_Law_law_1057 (by omega) ?_
  refine zg_T F hE hP hP2 hT zk_Mo_voucher za_Mo_voucher zb_Mo_voucher wl_Law_111 rfl (by decide) hR hcs hb (fun q z => hA q (by have := z.1; omega)) hS hl.1 rfl dd_Law_law_1058 (fun H locs hP hP2 hS => ?_)
  refine lv_icmp_eq F.1 F.2.1 dd_Law_law_1061 (tgt := 1066) rfl (fun _ => ?_) (fun z => absurd rfl z)
  exact kk S' T' H locs h' hP hP2 hS
