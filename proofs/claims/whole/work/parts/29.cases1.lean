set_option maxHeartbeats 4000000 in
set_option maxRecDepth 100000 in
theorem zh_receive {p : Program} {l : Launch} {e : Env} {R : Room} {s : State} {m : MethodId} {args : Array Value} {below : List Frame} {meth : Method} {c : Code} {H : Heap} {locs : List Loc} {cells slots : Nat} {Q : State → Prop} {ls : Array Slot} {A : Nat → Prop} {G : zw_G} {b b0 b1 L i N : Nat} {xs : Nat → Int32} {S : zs_S} {T : zs_T} (F : CallFix p m c code 4 s args zw_WS "TwinLedgersLaw") (hE : zw_E G s) (hX : va_X b L xs s s.heap) (hbl : b < s.heap.size) (hbA : ¬ A b) (hL : L < 2 ^ 31) (hR : 8 ≤ R.frames ∧ 207 ≤ R.locals) (hcs : cells ≤ R.cells ∧ slots ≤ R.slots) (hb : b1 = b0 + 176) (hA : ∀ q, b0 ≤ q → A q) (hi : i + 6 ≤ L) (hN : N < 512) (h : zl_R N S T) (hP : va_P G.1 zw_cl (zw_l b0 176 (zp_p G b0 S)) H) (hP2 : va_P G.1 zw_cl (zw_l b1 26 (zq_p G b1 T)) H) (hS : va_S A s.heap H locs) (hl : lv_has ls 4 (zg_lv i b1 b0 b)) (kk : ∀ (S' : zs_S) (T' : zs_T) (H1 : Heap) (locs1 : List Loc), zl_R (N + 1) S' T' → va_P G.1 zw_cl (zw_l b0 176 (zp_p G b0 S')) H1 → va_P G.1 zw_cl (zw_l b1 26 (zq_p G b1 T')) H1 → va_S A s.heap H1 locs1 → W p l e R s m args below meth c H1 locs1 cells slots Q (F0 m 1066 ls [])) : W p l e R s m args below meth c H locs cells slots Q (F0 m 505 ls []) := by
  obtain ⟨r, S', T', hC, hT, h'⟩ := zf_receive (lc := l) (G := G) (b0 := b0) (b1 := b1) h (xs (i + 1)) (xs (i + 2)) (xs (i + 3)) (xs (i + 4)) (zs_fl (xs (i + 5))) (zl_f01 _)
  refine lv_aload_n F.1 F.2.1 dd_Law_law_505 rfl (lv_at hl 2 rfl) ?_
  refine zg_arg (n := 1) F hX hbl hbA hS hl hL dd_Law_law_506 dd_Law_law_507 dd_Law_law_508 (by decide) dd_Law_law_509 dd_Law_law_510 (by omega) ?_
  refine zg_arg (n := 2) F hX hbl hbA hS hl hL dd_Law_law_511 dd_Law_law_512 dd_Law_law_513 (by decide) dd_Law_law_514 dd_Law_law_515 (by omega) ?_
  refine zg_arg (n := 3) F hX hbl hbA hS hl hL dd_Law_law_516 dd_Law_law_517 dd_Law_law_518 (by decide) dd_Law_law_519 dd_Law_law_520 (by omega) ?_
  refine zg_arg (n := 4) F hX hbl hbA hS hl hL dd_Law_law_521 dd_Law_law_522 dd_Law_law_523 (by decide) dd_Law_law_524 dd_Law_law_525 (by omega) ?_
  refine zg_flag (n := 5) F hX hbl hbA hS hl hL dd_Law_law_526 dd_Law_law_527 dd_Law_law_528 (by decide) dd_Law_law_529 dd_Law_law_530 dd_Law_law_531 dd_Law_law_534 dd_Law_law_535 dd_Law_law_538 (by omega) ?_
  refine zg_C F hE hP hP2 hC zk_TL_receive za_TL_receive zb_TL_receive wl_Law_56 rfl (by decide) hR hcs hb (fun q z => hA q z.1) hS hl.1 rfl dd_Law_law_539 (fun H locs hP hP2 hS => ?_)
  refine lv_aload_n F.1 F.2.1 dd_Law_law_542 rfl (lv_at hl 1 rfl) ?_
  refine zg_arg (n := 1) F hX hbl hbA hS hl hL dd_Law_law_543 dd_Law_law_544 dd_Law_law_545 (by decide) dd_Law_law_546 dd_Law_law_547 (by omega) ?_
  refine zg_arg (n := 2) F hX hbl hbA hS hl hL dd_Law_law_548 dd_Law_law_549 dd_Law_law_550 (by decide) dd_Law_law_551 dd_Law_law_552 (by omega) ?_
  refine zg_arg (n := 3) F hX hbl hbA hS hl hL dd_Law_law_553 dd_Law_law_554 dd_Law_law_555 (by decide) dd_Law_law_556 dd_Law_law_557 (by omega) ?_
  refine zg_arg (n := 4) F hX hbl hbA hS hl hL dd_Law_law_558 dd_Law_law_559 dd_Law_law_560 (by decide) dd_Law_law_561 dd_Law_law_562 (by omega) ?_
  refine zg_flag (n := 5) F hX hbl hbA hS hl hL dd_Law_law_563 dd_Law_law_564 dd_Law_law_565 (by decide) dd_Law_law_566 dd_Law_law_567 dd_Law_law_568 dd_Law_law_571 dd_Law_law_572 dd_Law_law_575 (by omega) ?_
  refine zg_T F hE hP hP2 hT zk_Mo_receive za_Mo_receive zb_Mo_receive wl_Law_60 rfl (by decide) hR hcs hb (fun q z => hA q (by have := z.1; omega)) hS hl.1 rfl dd_Law_law_576 (fun H locs hP hP2 hS => ?_)
  refine lv_icmp_eq F.1 F.2.1 dd_Law_law_579 (tgt := 1066) rfl (fun _ => ?_) (fun z => absurd rfl z)
  exact kk S' T' H locs h' hP hP2 hS
set_option maxHeartbeats 4000000 in
set_option maxRecDepth 100000 in
theorem zh_acknowledge {p : Program} {l : Launch} {e : Env} {R : Room} {s : State} {m : MethodId} {args : Array Value} {below : List Frame} {meth : Method} {c : Code} {H : Heap} {locs : List Loc} {cells slots : Nat} {Q : State → Prop} {ls : Array Slot} {A : Nat → Prop} {G : zw_G} {b b0 b1 L i N : Nat} {xs : Nat → Int32} {S : zs_S} {T : zs_T} (F : CallFix p m c code 4 s args zw_WS "TwinLedgersLaw") (hE : zw_E G s) (hX : va_X b L xs s s.heap) (hbl : b < s.heap.size) (hbA : ¬ A b) (hL : L < 2 ^ 31) (hR : 8 ≤ R.frames ∧ 207 ≤ R.locals) (hcs : cells ≤ R.cells ∧ slots ≤ R.slots) (hb : b1 = b0 + 176) (hA : ∀ q, b0 ≤ q → A q) (hi : i + 6 ≤ L) (hN : N < 512) (h : zl_R N S T) (hP : va_P G.1 zw_cl (zw_l b0 176 (zp_p G b0 S)) H) (hP2 : va_P G.1 zw_cl (zw_l b1 26 (zq_p G b1 T)) H) (hS : va_S A s.heap H locs) (hl : lv_has ls 4 (zg_lv i b1 b0 b)) (kk : ∀ (S' : zs_S) (T' : zs_T) (H1 : Heap) (locs1 : List Loc), zl_R (N + 1) S' T' → va_P G.1 zw_cl (zw_l b0 176 (zp_p G b0 S')) H1 → va_P G.1 zw_cl (zw_l b1 26 (zq_p G b1 T')) H1 → va_S A s.heap H1 locs1 → W p l e R s m args below meth c H1 locs1 cells slots Q (F0 m 1066 ls [])) : W p l e R s m args below meth c H locs cells slots Q (F0 m 584 ls []) := by
  obtain ⟨r, S', T', hC, hT, h'⟩ := zf_acknowledge (lc := l) (G := G) (b0 := b0) (b1 := b1) h (xs (i + 1)) (xs (i + 2)) (xs (i + 3)) (xs (i + 4))
  refine lv_aload_n F.1 F.2.1 dd_Law_law_584 rfl (lv_at hl 2 rfl) ?_
  refine zg_arg (n := 1) F hX hbl hbA hS hl hL dd_Law_law_585 dd_Law_law_586 dd_Law_law_587 (by decide) dd_Law_law_588 dd_Law_law_589 (by omega) ?_
  refine zg_arg (n := 2) F hX hbl hbA hS hl hL dd_Law_law_590 dd_Law_law_591 dd_Law_law_592 (by decide) dd_Law_law_593 dd_Law_law_594 (by omega) ?_
  refine zg_arg (n := 3) F hX hbl hbA hS hl hL dd_Law_law_595 dd_Law_law_596 dd_Law_law_597 (by decide) dd_Law_law_598 dd_Law_law_599 (by omega) ?_
  refine zg_arg (n := 4) F hX hbl hbA hS hl hL dd_Law_law_600 dd_Law_law_601 dd_Law_law_602 (by decide) dd_Law_law_603 dd_Law_law_604 (by omega) ?_
  refine zg_C F hE hP hP2 hC zk_TL_acknowledge za_TL_acknowledge zb_TL_acknowledge wl_Law_61 rfl (by decide) hR hcs hb (fun q z => hA q z.1) hS hl.1 rfl dd_Law_law_605 (fun H locs hP hP2 hS => ?_)
  refine lv_aload_n F.1 F.2.1 dd_Law_law_608 rfl (lv_at hl 1 rfl) ?_
  refine zg_arg (n := 1) F hX hbl hbA hS hl hL dd_Law_law_609 dd_Law_law_610 dd_Law_law_611 (by decide) dd_Law_law_612 dd_Law_law_613 (by omega) ?_
  refine zg_arg (n := 2) F hX hbl hbA hS hl hL dd_Law_law_614 dd_Law_law_615 dd_Law_law_616 (by decide) dd_Law_law_617 dd_Law_law_618 (by omega) ?_
  refine zg_arg (n := 3) F hX hbl hbA hS hl hL dd_Law_law_619 dd_Law_law_620 dd_Law_law_621 (by decide) dd_Law_law_622 dd_Law_law_623 (by omega) ?_
  refine zg_arg (n := 4) F hX hbl hbA hS hl hL dd_Law_law_624 dd_Law_law_625 dd_Law_law_626 (by decide) dd_Law_law_627 dd_Law_law_628 (by omega) ?_
  refine zg_T F hE hP hP2 hT zk_Mo_acknowledge za_Mo_acknowledge zb_Mo_acknowledge wl_Law_64 rfl (by decide) hR hcs hb (fun q z => hA q (by have := z.1; omega)) hS hl.1 rfl dd_Law_law_629 (fun H locs hP hP2 hS => ?_)
  refine lv_icmp_eq F.1 F.2.1 dd_Law_law_632 (tgt := 1066) rfl (fun _ => ?_) (fun z => absurd rfl z)
  exact kk S' T' H locs h' hP hP2 hS
set_option maxHeartbeats 4000000 in
set_option maxRecDepth 100000 in
theorem zh_timeout {p : Program} {l : Launch} {e : Env} {R : Room} {s : State} {m : MethodId} {args : Array Value} {below : List Frame} {meth : Method} {c : Code} {H : Heap} {locs : List Loc} {cells slots : Nat} {Q : State → Prop} {ls : Array Slot} {A : Nat → Prop} {G : zw_G} {b b0 b1 L i N : Nat} {xs : Nat → Int32} {S : zs_S} {T : zs_T} (F : CallFix p m c code 4 s args zw_WS "TwinLedgersLaw") (hE : zw_E G s) (hX : va_X b L xs s s.heap) (hbl : b < s.heap.size) (hbA : ¬ A b) (hL : L < 2 ^ 31) (hR : 8 ≤ R.frames ∧ 207 ≤ R.locals) (hcs : cells ≤ R.cells ∧ slots ≤ R.slots) (hb : b1 = b0 + 176) (hA : ∀ q, b0 ≤ q → A q) (hi : i + 6 ≤ L) (hN : N < 512) (h : zl_R N S T) (hP : va_P G.1 zw_cl (zw_l b0 176 (zp_p G b0 S)) H) (hP2 : va_P G.1 zw_cl (zw_l b1 26 (zq_p G b1 T)) H) (hS : va_S A s.heap H locs) (hl : lv_has ls 4 (zg_lv i b1 b0 b)) (kk : ∀ (S' : zs_S) (T' : zs_T) (H1 : Heap) (locs1 : List Loc), zl_R (N + 1) S' T' → va_P G.1 zw_cl (zw_l b0 176 (zp_p G b0 S')) H1 → va_P G.1 zw_cl (zw_l b1 26 (zq_p G b1 T')) H1 → va_S A s.heap H1 locs1 → W p l e R s m args below meth c H1 locs1 cells slots Q (F0 m 1066 ls [])) : W p l e R s m args below meth c H locs cells slots Q (F0 m 637 ls []) := by
  obtain ⟨r, S', T', hC, hT, h'⟩ := zf_timeout (lc := l) (G := G) (b0 := b0) (b1 := b1) h (xs (i + 1)) (xs (i + 2)) (xs (i + 3)) (xs (i + 4)) (zs_fl (xs (i + 5))) (zl_f01 _)
  refine lv_aload_n F.1 F.2.1 dd_Law_law_637 rfl (lv_at hl 2 rfl) ?_
  refine zg_arg (n := 1) F hX hbl hbA hS hl hL dd_Law_law_638 dd_Law_law_639 dd_Law_law_640 (by decide) dd_Law_law_641 dd_Law_law_642 (by omega) ?_
  refine zg_arg (n := 2) F hX hbl hbA hS hl hL dd_Law_law_643 dd_Law_law_644 dd_Law_law_645 (by decide) dd_Law_law_646 dd_Law_law_647 (by omega) ?_
  refine zg_arg (n := 3) F hX hbl hbA hS hl hL dd_Law_law_648 dd_Law_law_649 dd_Law_law_650 (by decide) dd_Law_law_651 dd_Law_law_652 (by omega) ?_
  refine zg_arg (n := 4) F hX hbl hbA hS hl hL dd_Law_law_653 dd_Law_law_654 dd_Law_law_655 (by decide) dd_Law_law_656 dd_Law_law_657 (by omega) ?_
  refine zg_flag (n := 5) F hX hbl hbA hS hl hL dd_Law_law_658 dd_Law_law_659 dd_Law_law_660 (by decide) dd_Law_law_661 dd_Law_law_662 dd_Law_law_663 dd_Law_law_666 dd_Law_law_667 dd_Law_law_670 (by omega) ?_
  refine zg_C F hE hP hP2 hC zk_TL_timeout za_TL_timeout zb_TL_timeout wl_Law_65 rfl (by decide) hR hcs hb (fun q z => hA q z.1) hS hl.1 rfl dd_Law_law_671 (fun H locs hP hP2 hS => ?_)
  refine lv_aload_n F.1 F.2.1 dd_Law_law_674 rfl (lv_at hl 1 rfl) ?_
  refine zg_arg (n := 1) F hX hbl hbA hS hl hL dd_Law_law_675 dd_Law_law_676 dd_Law_law_677 (by decide) dd_Law_law_678 dd_Law_law_679 (by omega) ?_
  refine zg_arg (n := 2) F hX hbl hbA hS hl hL dd_Law_law_680 dd_Law_law_681 dd_Law_law_682 (by decide) dd_Law_law_683 dd_Law_law_684 (by omega) ?_
  refine zg_arg (n := 3) F hX hbl hbA hS hl hL dd_Law_law_685 dd_Law_law_686 dd_Law_law_687 (by decide) dd_Law_law_688 dd_Law_law_689 (by omega) ?_
  refine zg_arg (n := 4) F hX hbl hbA hS hl hL dd_Law_law_690 dd_Law_law_691 dd_Law_law_692 (by decide) dd_Law_law_693 dd_Law_law_694 (by omega) ?_
  refine zg_flag (n := 5) F hX hbl hbA hS hl hL dd_Law_law_695 dd_Law_law_696 dd_Law_law_697 (by decide) dd_Law_law_698 dd_Law_law_699 dd_Law_law_700 dd_Law_law_703 dd_Law_law_704 dd_Law_law_707 (by omega) ?_
  refine zg_T F hE hP hP2 hT zk_Mo_timeout za_Mo_timeout zb_Mo_timeout wl_Law_68 rfl (by decide) hR hcs hb (fun q z => hA q (by have := z.1; omega)) hS hl.1 rfl dd_Law_law_708 (fun H locs hP hP2 hS => ?_)
  refine lv_icmp_eq F.1 F.2.1 dd_Law_law_711 (tgt := 1066) rfl (fun _ => ?_) (fun z => absurd rfl z)
  exact kk S' T' H locs h' hP hP2 hS
set_option maxHeartbeats 4000000 in
set_option maxRecDepth 100000 in
theorem zh_round {p : Program} {l : Launch} {e : Env} {R : Room} {s : State} {m : MethodId} {args : Array Value} {below : List Frame} {meth : Method} {c : Code} {H : Heap} {locs : List Loc} {cells slots : Nat} {Q : State → Prop} {ls : Array Slot} {A : Nat → Prop} {G : zw_G} {b b0 b1 L i N : Nat} {xs : Nat → Int32} {S : zs_S} {T : zs_T} (F : CallFix p m c code 4 s args zw_WS "TwinLedgersLaw") (hE : zw_E G s) (hX : va_X b L xs s s.heap) (hbl : b < s.heap.size) (hbA : ¬ A b) (hL : L < 2 ^ 31) (hR : 8 ≤ R.frames ∧ 207 ≤ R.locals) (hcs : cells ≤ R.cells ∧ slots ≤ R.slots) (hb : b1 = b0 + 176) (hA : ∀ q, b0 ≤ q → A q) (hi : i + 6 ≤ L) (hN : N < 512) (h : zl_R N S T) (hP : va_P G.1 zw_cl (zw_l b0 176 (zp_p G b0 S)) H) (hP2 : va_P G.1 zw_cl (zw_l b1 26 (zq_p G b1 T)) H) (hS : va_S A s.heap H locs) (hl : lv_has ls 4 (zg_lv i b1 b0 b)) (kk : ∀ (S' : zs_S) (T' : zs_T) (H1 : Heap) (locs1 : List Loc), zl_R (N + 1) S' T' → va_P G.1 zw_cl (zw_l b0 176 (zp_p G b0 S')) H1 → va_P G.1 zw_cl (zw_l b1 26 (zq_p G b1 T')) H1 → va_S A s.heap H1 locs1 → W p l e R s m args below meth c H1 locs1 cells slots Q (F0 m 1066 ls [])) : W p l e R s m args below meth c H locs cells slots Q (F0 m 716 ls []) := by
  obtain ⟨r, S', T', hC, hT, h'⟩ := zf_round (lc := l) (G := G) (b0 := b0) (b1 := b1) h hN
  refine lv_aload_n F.1 F.2.1 dd_Law_law_716 rfl (lv_at hl 2 rfl) ?_
  refine zg_C F hE hP hP2 hC zk_TL_round za_TL_round zb_TL_round wl_Law_69 rfl (by decide) hR hcs hb (fun q z => hA q z.1) hS hl.1 rfl dd_Law_law_717 (fun H locs hP hP2 hS => ?_)
  refine lv_aload_n F.1 F.2.1 dd_Law_law_720 rfl (lv_at hl 1 rfl) ?_
  refine zg_T F hE hP hP2 hT zk_Mo_round za_Mo_round zb_Mo_round wl_Law_73 rfl (by decide) hR hcs hb (fun q z => hA q (by have := z.1; omega)) hS hl.1 rfl dd_Law_law_721 (fun H locs hP hP2 hS => ?_)
  refine lv_icmp_eq F.1 F.2.1 dd_Law_law_724 (tgt := 1066) rfl (fun _ => ?_) (fun z => absurd rfl z)
  exact kk S' T' H locs h' hP hP2 hS
set_option maxHeartbeats 4000000 in
set_option maxRecDepth 100000 in
theorem zh_height {p : Program} {l : Launch} {e : Env} {R : Room} {s : State} {m : MethodId} {args : Array Value} {below : List Frame} {meth : Method} {c : Code} {H : Heap} {locs : List Loc} {cells slots : Nat} {Q : State → Prop} {ls : Array Slot} {A : Nat → Prop} {G : zw_G} {b b0 b1 L i N : Nat} {xs : Nat → Int32} {S : zs_S} {T : zs_T} (F : CallFix p m c code 4 s args zw_WS "TwinLedgersLaw") (hE : zw_E G s) (hX : va_X b L xs s s.heap) (hbl : b < s.heap.size) (hbA : ¬ A b) (hL : L < 2 ^ 31) (hR : 8 ≤ R.frames ∧ 207 ≤ R.locals) (hcs : cells ≤ R.cells ∧ slots ≤ R.slots) (hb : b1 = b0 + 176) (hA : ∀ q, b0 ≤ q → A q) (hi : i + 6 ≤ L) (hN : N < 512) (h : zl_R N S T) (hP : va_P G.1 zw_cl (zw_l b0 176 (zp_p G b0 S)) H) (hP2 : va_P G.1 zw_cl (zw_l b1 26 (zq_p G b1 T)) H) (hS : va_S A s.heap H locs) (hl : lv_has ls 4 (zg_lv i b1 b0 b)) (kk : ∀ (S' : zs_S) (T' : zs_T) (H1 : Heap) (locs1 : List Loc), zl_R (N + 1) S' T' → va_P G.1 zw_cl (zw_l b0 176 (zp_p G b0 S')) H1 → va_P G.1 zw_cl (zw_l b1 26 (zq_p G b1 T')) H1 → va_S A s.heap H1 locs1 → W p l e R s m args below meth c H1 locs1 cells slots Q (F0 m 1066 ls [])) : W p l e R s m args below meth c H locs cells slots Q (F0 m 729 ls []) := by
  obtain ⟨r, S', T', hC, hT, h'⟩ := zf_height (lc := l) (G := G) (b0 := b0) (b1 := b1) h (xs (i + 1))
  refine lv_aload_n F.1 F.2.1 dd_Law_law_729 rfl (lv_at hl 2 rfl) ?_
  refine zg_arg (n := 1) F hX hbl hbA hS hl hL dd_Law_law_730 dd_Law_law_731 dd_Law_law_732 (by decide) dd_Law_law_733 dd_Law_law_734 (by omega) ?_
  refine zg_C F hE hP hP2 hC zk_TL_height za_TL_height zb_TL_height wl_Law_74 rfl (by decide) hR hcs hb (fun q z => hA q z.1) hS hl.1 rfl dd_Law_law_735 (fun H locs hP hP2 hS => ?_)
  refine lv_aload_n F.1 F.2.1 dd_Law_law_738 rfl (lv_at hl 1 rfl) ?_
  refine zg_arg (n := 1) F hX hbl hbA hS hl hL dd_Law_law_739 dd_Law_law_740 dd_Law_law_741 (by decide) dd_Law_law_742 dd_Law_law_743 (by omega) ?_
  refine zg_T F hE hP hP2 hT zk_Mo_height za_Mo_height zb_Mo_height wl_Law_77 rfl (by decide) hR hcs hb (fun q z => hA q (by have := z.1; omega)) hS hl.1 rfl dd_Law_law_744 (fun H locs hP hP2 hS => ?_)
  refine lv_icmp_eq F.1 F.2.1 dd_Law_law_747 (tgt := 1066) rfl (fun _ => ?_) (fun z => absurd rfl z)
  exact kk S' T' H locs h' hP hP2 hS
set_option maxHeartbeats 4000000 in
set_option maxRecDepth 100000 in
theorem zh_root {p : Program} {l : Launch} {e : Env} {R : Room} {s : State} {m : MethodId} {args : Array Value} {below : List Frame} {meth : Method} {c : Code} {H : Heap} {locs : List Loc} {cells slots : Nat} {Q : State → Prop} {ls : Array Slot} {A : Nat → Prop} {G : zw_G} {b b0 b1 L i N : Nat} {xs : Nat → Int32} {S : zs_S} {T : zs_T} (F : CallFix p m c code 4 s args zw_WS "TwinLedgersLaw") (hE : zw_E G s) (hX : va_X b L xs s s.heap) (hbl : b < s.heap.size) (hbA : ¬ A b) (hL : L < 2 ^ 31) (hR : 8 ≤ R.frames ∧ 207 ≤ R.locals) (hcs : cells ≤ R.cells ∧ slots ≤ R.slots) (hb : b1 = b0 + 176) (hA : ∀ q, b0 ≤ q → A q) (hi : i + 6 ≤ L) (hN : N < 512) (h : zl_R N S T) (hP : va_P G.1 zw_cl (zw_l b0 176 (zp_p G b0 S)) H) (hP2 : va_P G.1 zw_cl (zw_l b1 26 (zq_p G b1 T)) H) (hS : va_S A s.heap H locs) (hl : lv_has ls 4 (zg_lv i b1 b0 b)) (kk : ∀ (S' : zs_S) (T' : zs_T) (H1 : Heap) (locs1 : List Loc), zl_R (N + 1) S' T' → va_P G.1 zw_cl (zw_l b0 176 (zp_p G b0 S')) H1 → va_P G.1 zw_cl (zw_l b1 26 (zq_p G b1 T')) H1 → va_S A s.heap H1 locs1 → W p l e R s m args below meth c H1 locs1 cells slots Q (F0 m 1066 ls [])) : W p l e R s m args below meth c H locs cells slots Q (F0 m 752 ls []) := by
  obtain ⟨r, S', T', hC, hT, h'⟩ := zf_root (lc := l) (G := G) (b0 := b0) (b1 := b1) h (xs (i + 1)) (xs (i + 2))
  refine lv_aload_n F.1 F.2.1 dd_Law_law_752 rfl (lv_at hl 2 rfl) ?_
  refine zg_arg (n := 1) F hX hbl hbA hS hl hL dd_Law_law_753 dd_Law_law_754 dd_Law_law_755 (by decide) dd_Law_law_756 dd_Law_law_757 (by omega) ?_
  refine zg_arg (n := 2) F hX hbl hbA hS hl hL dd_Law_law_758 dd_Law_law_759 dd_Law_law_760 (by decide) dd_Law_law_761 dd_Law_law_762 (by omega) ?_
  refine zg_C F hE hP hP2 hC zk_TL_root za_TL_root zb_TL_root wl_Law_78 rfl (by decide) hR hcs hb (fun q z => hA q z.1) hS hl.1 rfl dd_Law_law_763 (fun H locs hP hP2 hS => ?_)
  refine lv_aload_n F.1 F.2.1 dd_Law_law_766 rfl (lv_at hl 1 rfl) ?_
  refine zg_arg (n := 1) F hX hbl hbA hS hl hL dd_Law_law_767 dd_Law_law_768 dd_Law_law_769 (by decide) dd_Law_law_770 dd_Law_law_771 (by omega) ?_
  refine zg_arg (n := 2) F hX hbl hbA hS hl hL dd_Law_law_772 dd_Law_law_773 dd_Law_law_774 (by decide) dd_Law_law_775 dd_Law_law_776 (by omega) ?_
  refine zg_T F hE hP hP2 hT zk_Mo_root za_Mo_root zb_Mo_root wl_Law_81 rfl (by decide) hR hcs hb (fun q z => hA q (by have := z.1; omega)) hS hl.1 rfl dd_Law_law_777 (fun H locs hP hP2 hS => ?_)
  refine lv_icmp_eq F.1 F.2.1 dd_Law_law_780 (tgt := 1066) rfl (fun _ => ?_) (fun z => absurd rfl z)
  exact kk S' T' H locs h' hP hP2 hS
set_option maxHeartbeats 4000000 in
set_option maxRecDepth 100000 in
theorem zh_knows {p : Program} {l : Launch} {e : Env} {R : Room} {s : State} {m : MethodId} {args : Array Value} {below : List Frame} {meth : Method} {c : Code} {H : Heap} {locs : List Loc} {cells slots : Nat} {Q : State → Prop} {ls : Array Slot} {A : Nat → Prop} {G : zw_G} {b b0 b1 L i N : Nat} {xs : Nat → Int32} {S : zs_S} {T : zs_T} (F : CallFix p m c code 4 s args zw_WS "TwinLedgersLaw") (hE : zw_E G s) (hX : va_X b L xs s s.heap) (hbl : b < s.heap.size) (hbA : ¬ A b) (hL : L < 2 ^ 31) (hR : 8 ≤ R.frames ∧ 207 ≤ R.locals) (hcs : cells ≤ R.cells ∧ slots ≤ R.slots) (hb : b1 = b0 + 176) (hA : ∀ q, b0 ≤ q → A q) (hi : i + 6 ≤ L) (hN : N < 512) (h : zl_R N S T) (hP : va_P G.1 zw_cl (zw_l b0 176 (zp_p G b0 S)) H) (hP2 : va_P G.1 zw_cl (zw_l b1 26 (zq_p G b1 T)) H) (hS : va_S A s.heap H locs) (hl : lv_has ls 4 (zg_lv i b1 b0 b)) (kk : ∀ (S' : zs_S) (T' : zs_T) (H1 : Heap) (locs1 : List Loc), zl_R (N + 1) S' T' → va_P G.1 zw_cl (zw_l b0 176 (zp_p G b0 S')) H1 → va_P G.1 zw_cl (zw_l b1 26 (zq_p G b1 T')) H1 → va_S A s.heap H1 locs1 → W p l e R s m args below meth c H1 locs1 cells slots Q (F0 m 1066 ls [])) : W p l e R s m args below meth c H locs cells slots Q (F0 m 785 ls []) := by
  obtain ⟨r, S', T', hC, hT, h'⟩ := zf_knows (lc := l) (G := G) (b0 := b0) (b1 := b1) h (xs (i + 1)) (xs (i + 2))
  refine lv_aload_n F.1 F.2.1 dd_Law_law_785 rfl (lv_at hl 2 rfl) ?_
  refine zg_arg (n := 1) F hX hbl hbA hS hl hL dd_Law_law_786 dd_Law_law_787 dd_Law_law_788 (by decide) dd_Law_law_789 dd_Law_law_790 (by omega) ?_
  refine zg_arg (n := 2) F hX hbl hbA hS hl hL dd_Law_law_791 dd_Law_law_792 dd_Law_law_793 (by decide) dd_Law_law_794 dd_Law_law_795 (by omega) ?_
  refine zg_C F hE hP hP2 hC zk_TL_knows za_TL_knows zb_TL_knows wl_Law_82 rfl (by decide) hR hcs hb (fun q z => hA q z.1) hS hl.1 rfl dd_Law_law_796 (fun H locs hP hP2 hS => ?_)
  refine lv_aload_n F.1 F.2.1 dd_Law_law_799 rfl (lv_at hl 1 rfl) ?_
  refine zg_arg (n := 1) F hX hbl hbA hS hl hL dd_Law_law_800 dd_Law_law_801 dd_Law_law_802 (by decide) dd_Law_law_803 dd_Law_law_804 (by omega) ?_
  refine zg_arg (n := 2) F hX hbl hbA hS hl hL dd_Law_law_805 dd_Law_law_806 dd_Law_law_807 (by decide) dd_Law_law_808 dd_Law_law_809 (by omega) ?_
  refine zg_T F hE hP hP2 hT zk_Mo_knows za_Mo_knows zb_Mo_knows wl_Law_86 rfl (by decide) hR hcs hb (fun q z => hA q (by have := z.1; omega)) hS hl.1 rfl dd_Law_law_810 (fun H locs hP hP2 hS => ?_)
  refine lv_icmp_eq F.1 F.2.1 dd_Law_law_813 (tgt := 1066) rfl (fun _ => ?_) (fun z => absurd rfl z)
  exact kk S' T' H locs h' hP hP2 hS
