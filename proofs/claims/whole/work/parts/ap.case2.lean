/-! part ap: the law's cases 12 to 17 -/
theorem dL_law_583 : decode cL_law 583 = .ok (.aload_n 1, 1) := by decide +kernel
theorem dL_law_584 : decode cL_law 584 = .ok (.aload_n 0, 1) := by decide +kernel
theorem dL_law_585 : decode cL_law 585 = .ok (.iload_n 3, 1) := by decide +kernel
theorem dL_law_586 : decode cL_law 586 = .ok (.iconst 1, 1) := by decide +kernel
theorem dL_law_587 : decode cL_law 587 = .ok (.iadd, 1) := by decide +kernel
theorem dL_law_588 : decode cL_law 588 = .ok (.iaload, 1) := by decide +kernel
theorem dL_law_589 : decode cL_law 589 = .ok (.aload_n 0, 1) := by decide +kernel
theorem dL_law_590 : decode cL_law 590 = .ok (.iload_n 3, 1) := by decide +kernel
theorem dL_law_591 : decode cL_law 591 = .ok (.iconst 2, 1) := by decide +kernel
theorem dL_law_592 : decode cL_law 592 = .ok (.iadd, 1) := by decide +kernel
theorem dL_law_593 : decode cL_law 593 = .ok (.iaload, 1) := by decide +kernel
theorem dL_law_594 : decode cL_law 594 = .ok (.aload_n 0, 1) := by decide +kernel
theorem dL_law_595 : decode cL_law 595 = .ok (.iload_n 3, 1) := by decide +kernel
theorem dL_law_596 : decode cL_law 596 = .ok (.iconst 3, 1) := by decide +kernel
theorem dL_law_597 : decode cL_law 597 = .ok (.iadd, 1) := by decide +kernel
theorem dL_law_598 : decode cL_law 598 = .ok (.iaload, 1) := by decide +kernel
theorem dL_law_599 : decode cL_law 599 = .ok (.invokevirtual 66, 3) := by decide +kernel
theorem dL_law_602 : decode cL_law 602 = .ok (.aload_n 2, 1) := by decide +kernel
theorem dL_law_603 : decode cL_law 603 = .ok (.aload_n 0, 1) := by decide +kernel
theorem dL_law_604 : decode cL_law 604 = .ok (.iload_n 3, 1) := by decide +kernel
theorem dL_law_605 : decode cL_law 605 = .ok (.iconst 1, 1) := by decide +kernel
theorem dL_law_606 : decode cL_law 606 = .ok (.iadd, 1) := by decide +kernel
theorem dL_law_607 : decode cL_law 607 = .ok (.iaload, 1) := by decide +kernel
theorem dL_law_608 : decode cL_law 608 = .ok (.aload_n 0, 1) := by decide +kernel
theorem dL_law_609 : decode cL_law 609 = .ok (.iload_n 3, 1) := by decide +kernel
theorem dL_law_610 : decode cL_law 610 = .ok (.iconst 2, 1) := by decide +kernel
theorem dL_law_611 : decode cL_law 611 = .ok (.iadd, 1) := by decide +kernel
theorem dL_law_612 : decode cL_law 612 = .ok (.iaload, 1) := by decide +kernel
theorem dL_law_613 : decode cL_law 613 = .ok (.aload_n 0, 1) := by decide +kernel
theorem dL_law_614 : decode cL_law 614 = .ok (.iload_n 3, 1) := by decide +kernel
theorem dL_law_615 : decode cL_law 615 = .ok (.iconst 3, 1) := by decide +kernel
theorem dL_law_616 : decode cL_law 616 = .ok (.iadd, 1) := by decide +kernel
theorem dL_law_617 : decode cL_law 617 = .ok (.iaload, 1) := by decide +kernel
theorem dL_law_618 : decode cL_law 618 = .ok (.invokevirtual 69, 3) := by decide +kernel
theorem dL_law_621 : decode cL_law 621 = .ok (.if_icmp .eq 863, 3) := by decide +kernel
set_option maxHeartbeats 4000000 in
set_option maxRecDepth 100000 in
/-- turn -/
theorem lc_12 {p : Program} {l : Launch} {e : Env} {s : State} {m : MethodId} {below : List Frame} {meth : Method} {c : Code} {b L : Nat} {xs : Nat → Int32} {D : va_G} {cy : Nat → ClassId} {z a a' : Nat → Nat} {ls : Array Slot} {x3 : Int32} {Q : State → Prop} (B : lwB p s m meth c b L xs D cy z a a' ls x3) (kk : lwC p l e s m below meth c b D cy a a' ls Q 1484) : lwC p l e s m below meth c b D cy a a' ls Q 583 := by
  intro SX SM H locs hRR hP hS
  obtain ⟨η, gn, hR⟩ := hRR
  obtain ⟨⟨hx, hb, hr, hml, hown, hts, hX, hbl, hlocks, hgv⟩, hK, hIx, hIm, hEx, hDD, hl, hj⟩ := id B
  have hts' : ∀ w ∈ xTB, w.before #[Value.ref b] s = true := fun w hw => hts w (List.mem_filter.mp hw).1
  have hbA : ¬ (fun q : Nat => s.heap.size ≤ q) b := Nat.not_le.mpr hbl
  refine lv_aload_n hx hb dL_law_583 rfl (lv_at hl 1 rfl) ?_
  refine lw_ld hx hb hX hbl hbA hS hl rfl rfl (1 : Int32) (by decide) (hj _ (by decide)) dL_law_584 dL_law_585 dL_law_586 dL_law_587 dL_law_588 ?_
  refine lw_ld hx hb hX hbl hbA hS hl rfl rfl (2 : Int32) (by decide) (hj _ (by decide)) dL_law_589 dL_law_590 dL_law_591 dL_law_592 dL_law_593 ?_
  refine lw_ld hx hb hX hbl hbA hS hl rfl rfl (3 : Int32) (by decide) (hj _ (by decide)) dL_law_594 dL_law_595 dL_law_596 dL_law_597 dL_law_598 ?_
  obtain ⟨v, SX', SM', e1, e2, hR'⟩ := q_turn hR (xs (x3 + 1).toNatClampNeg) (xs (x3 + 2).toNatClampNeg) (xs (x3 + 3).toNatClampNeg)
  refine lx_i B hP hS (rest := []) (n := 3) ⟨xw_mem 755 (by decide +kernel) rfl, xw_mem 98 (by decide +kernel) rfl, xw_mem 752 (by decide +kernel) rfl, by decide +kernel⟩ (xw_mem 753 (by decide +kernel) rfl) (xw_mem 754 (by decide +kernel) rfl) [.int (xs (x3 + 1).toNatClampNeg), .int (xs (x3 + 2).toNatClampNeg), .int (xs (x3 + 3).toNatClampNeg)] (c_X11_turn (z := z) hIx e1 H.size) (by decide) rfl rfl (Nat.le_of_ble_eq_true rfl) dL_law_599 (fun H locs hP hS => ?_)
  refine lv_aload_n hx hb dL_law_602 rfl (lv_at hl 2 rfl) ?_
  refine lw_ld hx hb hX hbl hbA hS hl rfl rfl (1 : Int32) (by decide) (hj _ (by decide)) dL_law_603 dL_law_604 dL_law_605 dL_law_606 dL_law_607 ?_
  refine lw_ld hx hb hX hbl hbA hS hl rfl rfl (2 : Int32) (by decide) (hj _ (by decide)) dL_law_608 dL_law_609 dL_law_610 dL_law_611 dL_law_612 ?_
  refine lw_ld hx hb hX hbl hbA hS hl rfl rfl (3 : Int32) (by decide) (hj _ (by decide)) dL_law_613 dL_law_614 dL_law_615 dL_law_616 dL_law_617 ?_
  refine lm_i B hP hS (rest := [.int v]) (n := 3) ⟨xw_mem 1511 (by decide +kernel) rfl, xw_mem 110 (by decide +kernel) rfl, xw_mem 1508 (by decide +kernel) rfl, by decide +kernel⟩ (xw_mem 1509 (by decide +kernel) rfl) (xw_mem 1510 (by decide +kernel) rfl) [.int (xs (x3 + 1).toNatClampNeg), .int (xs (x3 + 2).toNatClampNeg), .int (xs (x3 + 3).toNatClampNeg)] (c_X12_turn (z := z) hIm e2 H.size) (by decide) rfl rfl (Nat.le_of_ble_eq_true rfl) dL_law_618 (fun H locs hP hS => ?_)
  refine lv_icmp_eq (tgt := 1484) hx hb dL_law_621 (by decide) (fun _ => ?_) (fun cq => absurd rfl cq)
  exact kk _ _ _ _ hR' hP hS
theorem dL_law_626 : decode cL_law 626 = .ok (.aload_n 1, 1) := by decide +kernel
theorem dL_law_627 : decode cL_law 627 = .ok (.aload_n 0, 1) := by decide +kernel
theorem dL_law_628 : decode cL_law 628 = .ok (.iload_n 3, 1) := by decide +kernel
theorem dL_law_629 : decode cL_law 629 = .ok (.iconst 1, 1) := by decide +kernel
theorem dL_law_630 : decode cL_law 630 = .ok (.iadd, 1) := by decide +kernel
theorem dL_law_631 : decode cL_law 631 = .ok (.iaload, 1) := by decide +kernel
theorem dL_law_632 : decode cL_law 632 = .ok (.aload_n 0, 1) := by decide +kernel
theorem dL_law_633 : decode cL_law 633 = .ok (.iload_n 3, 1) := by decide +kernel
theorem dL_law_634 : decode cL_law 634 = .ok (.iconst 2, 1) := by decide +kernel
theorem dL_law_635 : decode cL_law 635 = .ok (.iadd, 1) := by decide +kernel
theorem dL_law_636 : decode cL_law 636 = .ok (.iaload, 1) := by decide +kernel
theorem dL_law_637 : decode cL_law 637 = .ok (.invokevirtual 70, 3) := by decide +kernel
theorem dL_law_640 : decode cL_law 640 = .ok (.aload_n 2, 1) := by decide +kernel
theorem dL_law_641 : decode cL_law 641 = .ok (.aload_n 0, 1) := by decide +kernel
theorem dL_law_642 : decode cL_law 642 = .ok (.iload_n 3, 1) := by decide +kernel
theorem dL_law_643 : decode cL_law 643 = .ok (.iconst 1, 1) := by decide +kernel
theorem dL_law_644 : decode cL_law 644 = .ok (.iadd, 1) := by decide +kernel
theorem dL_law_645 : decode cL_law 645 = .ok (.iaload, 1) := by decide +kernel
theorem dL_law_646 : decode cL_law 646 = .ok (.aload_n 0, 1) := by decide +kernel
theorem dL_law_647 : decode cL_law 647 = .ok (.iload_n 3, 1) := by decide +kernel
theorem dL_law_648 : decode cL_law 648 = .ok (.iconst 2, 1) := by decide +kernel
theorem dL_law_649 : decode cL_law 649 = .ok (.iadd, 1) := by decide +kernel
theorem dL_law_650 : decode cL_law 650 = .ok (.iaload, 1) := by decide +kernel
theorem dL_law_651 : decode cL_law 651 = .ok (.invokevirtual 73, 3) := by decide +kernel
theorem dL_law_654 : decode cL_law 654 = .ok (.if_icmp .eq 830, 3) := by decide +kernel
set_option maxHeartbeats 4000000 in
set_option maxRecDepth 100000 in
/-- chimney -/
theorem lc_13 {p : Program} {l : Launch} {e : Env} {s : State} {m : MethodId} {below : List Frame} {meth : Method} {c : Code} {b L : Nat} {xs : Nat → Int32} {D : va_G} {cy : Nat → ClassId} {z a a' : Nat → Nat} {ls : Array Slot} {x3 : Int32} {Q : State → Prop} (B : lwB p s m meth c b L xs D cy z a a' ls x3) (kk : lwC p l e s m below meth c b D cy a a' ls Q 1484) : lwC p l e s m below meth c b D cy a a' ls Q 626 := by
  intro SX SM H locs hRR hP hS
  obtain ⟨η, gn, hR⟩ := hRR
  obtain ⟨⟨hx, hb, hr, hml, hown, hts, hX, hbl, hlocks, hgv⟩, hK, hIx, hIm, hEx, hDD, hl, hj⟩ := id B
  have hts' : ∀ w ∈ xTB, w.before #[Value.ref b] s = true := fun w hw => hts w (List.mem_filter.mp hw).1
  have hbA : ¬ (fun q : Nat => s.heap.size ≤ q) b := Nat.not_le.mpr hbl
  refine lv_aload_n hx hb dL_law_626 rfl (lv_at hl 1 rfl) ?_
  refine lw_ld hx hb hX hbl hbA hS hl rfl rfl (1 : Int32) (by decide) (hj _ (by decide)) dL_law_627 dL_law_628 dL_law_629 dL_law_630 dL_law_631 ?_
  refine lw_ld hx hb hX hbl hbA hS hl rfl rfl (2 : Int32) (by decide) (hj _ (by decide)) dL_law_632 dL_law_633 dL_law_634 dL_law_635 dL_law_636 ?_
  obtain ⟨v, SX', SM', e1, e2, hR'⟩ := q_chimney hR (xs (x3 + 1).toNatClampNeg) (xs (x3 + 2).toNatClampNeg)
  refine lx_i B hP hS (rest := []) (n := 2) ⟨xw_mem 782 (by decide +kernel) rfl, xw_mem 98 (by decide +kernel) rfl, xw_mem 779 (by decide +kernel) rfl, by decide +kernel⟩ (xw_mem 780 (by decide +kernel) rfl) (xw_mem 781 (by decide +kernel) rfl) [.int (xs (x3 + 1).toNatClampNeg), .int (xs (x3 + 2).toNatClampNeg)] (c_X11_chimney (z := z) hIx e1 H.size) (by decide) rfl rfl (Nat.le_of_ble_eq_true rfl) dL_law_637 (fun H locs hP hS => ?_)
  refine lv_aload_n hx hb dL_law_640 rfl (lv_at hl 2 rfl) ?_
  refine lw_ld hx hb hX hbl hbA hS hl rfl rfl (1 : Int32) (by decide) (hj _ (by decide)) dL_law_641 dL_law_642 dL_law_643 dL_law_644 dL_law_645 ?_
  refine lw_ld hx hb hX hbl hbA hS hl rfl rfl (2 : Int32) (by decide) (hj _ (by decide)) dL_law_646 dL_law_647 dL_law_648 dL_law_649 dL_law_650 ?_
  refine lm_i B hP hS (rest := [.int v]) (n := 2) ⟨xw_mem 1529 (by decide +kernel) rfl, xw_mem 110 (by decide +kernel) rfl, xw_mem 1526 (by decide +kernel) rfl, by decide +kernel⟩ (xw_mem 1527 (by decide +kernel) rfl) (xw_mem 1528 (by decide +kernel) rfl) [.int (xs (x3 + 1).toNatClampNeg), .int (xs (x3 + 2).toNatClampNeg)] (c_X12_chimney (z := z) hIm e2 H.size) (by decide) rfl rfl (Nat.le_of_ble_eq_true rfl) dL_law_651 (fun H locs hP hS => ?_)
  refine lv_icmp_eq (tgt := 1484) hx hb dL_law_654 (by decide) (fun _ => ?_) (fun cq => absurd rfl cq)
  exact kk _ _ _ _ hR' hP hS
theorem dL_law_659 : decode cL_law 659 = .ok (.aload_n 1, 1) := by decide +kernel
theorem dL_law_660 : decode cL_law 660 = .ok (.invokevirtual 74, 3) := by decide +kernel
theorem dL_law_663 : decode cL_law 663 = .ok (.aload_n 2, 1) := by decide +kernel
theorem dL_law_664 : decode cL_law 664 = .ok (.invokevirtual 77, 3) := by decide +kernel
theorem dL_law_667 : decode cL_law 667 = .ok (.if_icmp .eq 817, 3) := by decide +kernel
set_option maxHeartbeats 4000000 in
set_option maxRecDepth 100000 in
/-- latest -/
theorem lc_14 {p : Program} {l : Launch} {e : Env} {s : State} {m : MethodId} {below : List Frame} {meth : Method} {c : Code} {b L : Nat} {xs : Nat → Int32} {D : va_G} {cy : Nat → ClassId} {z a a' : Nat → Nat} {ls : Array Slot} {x3 : Int32} {Q : State → Prop} (B : lwB p s m meth c b L xs D cy z a a' ls x3) (kk : lwC p l e s m below meth c b D cy a a' ls Q 1484) : lwC p l e s m below meth c b D cy a a' ls Q 659 := by
  intro SX SM H locs hRR hP hS
  obtain ⟨η, gn, hR⟩ := hRR
  obtain ⟨⟨hx, hb, hr, hml, hown, hts, hX, hbl, hlocks, hgv⟩, hK, hIx, hIm, hEx, hDD, hl, hj⟩ := id B
  have hts' : ∀ w ∈ xTB, w.before #[Value.ref b] s = true := fun w hw => hts w (List.mem_filter.mp hw).1
  have hbA : ¬ (fun q : Nat => s.heap.size ≤ q) b := Nat.not_le.mpr hbl
  refine lv_aload_n hx hb dL_law_659 rfl (lv_at hl 1 rfl) ?_
  obtain ⟨v, SX', SM', e1, e2, hR'⟩ := q_latest hR 
  refine lx_i B hP hS (rest := []) (n := 0) ⟨xw_mem 790 (by decide +kernel) rfl, xw_mem 98 (by decide +kernel) rfl, xw_mem 787 (by decide +kernel) rfl, by decide +kernel⟩ (xw_mem 788 (by decide +kernel) rfl) (xw_mem 789 (by decide +kernel) rfl) [] (c_X11_latest (z := z) hIx e1 H.size) (by decide) rfl rfl (Nat.le_of_ble_eq_true rfl) dL_law_660 (fun H locs hP hS => ?_)
  refine lv_aload_n hx hb dL_law_663 rfl (lv_at hl 2 rfl) ?_
  refine lm_i B hP hS (rest := [.int v]) (n := 0) ⟨xw_mem 1533 (by decide +kernel) rfl, xw_mem 110 (by decide +kernel) rfl, xw_mem 1530 (by decide +kernel) rfl, by decide +kernel⟩ (xw_mem 1531 (by decide +kernel) rfl) (xw_mem 1532 (by decide +kernel) rfl) [] (c_X12_latest (z := z) hIm e2 H.size) (by decide) rfl rfl (Nat.le_of_ble_eq_true rfl) dL_law_664 (fun H locs hP hS => ?_)
  refine lv_icmp_eq (tgt := 1484) hx hb dL_law_667 (by decide) (fun _ => ?_) (fun cq => absurd rfl cq)
  exact kk _ _ _ _ hR' hP hS
theorem dL_law_672 : decode cL_law 672 = .ok (.aload_n 1, 1) := by decide +kernel
theorem dL_law_673 : decode cL_law 673 = .ok (.aload_n 0, 1) := by decide +kernel
theorem dL_law_674 : decode cL_law 674 = .ok (.iload_n 3, 1) := by decide +kernel
theorem dL_law_675 : decode cL_law 675 = .ok (.iconst 1, 1) := by decide +kernel
theorem dL_law_676 : decode cL_law 676 = .ok (.iadd, 1) := by decide +kernel
theorem dL_law_677 : decode cL_law 677 = .ok (.iaload, 1) := by decide +kernel
theorem dL_law_678 : decode cL_law 678 = .ok (.aload_n 0, 1) := by decide +kernel
theorem dL_law_679 : decode cL_law 679 = .ok (.iload_n 3, 1) := by decide +kernel
theorem dL_law_680 : decode cL_law 680 = .ok (.iconst 2, 1) := by decide +kernel
theorem dL_law_681 : decode cL_law 681 = .ok (.iadd, 1) := by decide +kernel
theorem dL_law_682 : decode cL_law 682 = .ok (.iaload, 1) := by decide +kernel
theorem dL_law_683 : decode cL_law 683 = .ok (.aload_n 0, 1) := by decide +kernel
theorem dL_law_684 : decode cL_law 684 = .ok (.iload_n 3, 1) := by decide +kernel
theorem dL_law_685 : decode cL_law 685 = .ok (.iconst 3, 1) := by decide +kernel
theorem dL_law_686 : decode cL_law 686 = .ok (.iadd, 1) := by decide +kernel
theorem dL_law_687 : decode cL_law 687 = .ok (.iaload, 1) := by decide +kernel
theorem dL_law_688 : decode cL_law 688 = .ok (.invokevirtual 78, 3) := by decide +kernel
theorem dL_law_691 : decode cL_law 691 = .ok (.aload_n 2, 1) := by decide +kernel
theorem dL_law_692 : decode cL_law 692 = .ok (.aload_n 0, 1) := by decide +kernel
theorem dL_law_693 : decode cL_law 693 = .ok (.iload_n 3, 1) := by decide +kernel
theorem dL_law_694 : decode cL_law 694 = .ok (.iconst 1, 1) := by decide +kernel
theorem dL_law_695 : decode cL_law 695 = .ok (.iadd, 1) := by decide +kernel
theorem dL_law_696 : decode cL_law 696 = .ok (.iaload, 1) := by decide +kernel
theorem dL_law_697 : decode cL_law 697 = .ok (.aload_n 0, 1) := by decide +kernel
theorem dL_law_698 : decode cL_law 698 = .ok (.iload_n 3, 1) := by decide +kernel
theorem dL_law_699 : decode cL_law 699 = .ok (.iconst 2, 1) := by decide +kernel
theorem dL_law_700 : decode cL_law 700 = .ok (.iadd, 1) := by decide +kernel
theorem dL_law_701 : decode cL_law 701 = .ok (.iaload, 1) := by decide +kernel
theorem dL_law_702 : decode cL_law 702 = .ok (.aload_n 0, 1) := by decide +kernel
theorem dL_law_703 : decode cL_law 703 = .ok (.iload_n 3, 1) := by decide +kernel
theorem dL_law_704 : decode cL_law 704 = .ok (.iconst 3, 1) := by decide +kernel
theorem dL_law_705 : decode cL_law 705 = .ok (.iadd, 1) := by decide +kernel
theorem dL_law_706 : decode cL_law 706 = .ok (.iaload, 1) := by decide +kernel
theorem dL_law_707 : decode cL_law 707 = .ok (.invokevirtual 81, 3) := by decide +kernel
theorem dL_law_710 : decode cL_law 710 = .ok (.if_icmp .eq 774, 3) := by decide +kernel
set_option maxHeartbeats 4000000 in
set_option maxRecDepth 100000 in
/-- lay -/
theorem lc_15 {p : Program} {l : Launch} {e : Env} {s : State} {m : MethodId} {below : List Frame} {meth : Method} {c : Code} {b L : Nat} {xs : Nat → Int32} {D : va_G} {cy : Nat → ClassId} {z a a' : Nat → Nat} {ls : Array Slot} {x3 : Int32} {Q : State → Prop} (B : lwB p s m meth c b L xs D cy z a a' ls x3) (kk : lwC p l e s m below meth c b D cy a a' ls Q 1484) : lwC p l e s m below meth c b D cy a a' ls Q 672 := by
  intro SX SM H locs hRR hP hS
  obtain ⟨η, gn, hR⟩ := hRR
  obtain ⟨⟨hx, hb, hr, hml, hown, hts, hX, hbl, hlocks, hgv⟩, hK, hIx, hIm, hEx, hDD, hl, hj⟩ := id B
  have hts' : ∀ w ∈ xTB, w.before #[Value.ref b] s = true := fun w hw => hts w (List.mem_filter.mp hw).1
  have hbA : ¬ (fun q : Nat => s.heap.size ≤ q) b := Nat.not_le.mpr hbl
  refine lv_aload_n hx hb dL_law_672 rfl (lv_at hl 1 rfl) ?_
  refine lw_ld hx hb hX hbl hbA hS hl rfl rfl (1 : Int32) (by decide) (hj _ (by decide)) dL_law_673 dL_law_674 dL_law_675 dL_law_676 dL_law_677 ?_
  refine lw_ld hx hb hX hbl hbA hS hl rfl rfl (2 : Int32) (by decide) (hj _ (by decide)) dL_law_678 dL_law_679 dL_law_680 dL_law_681 dL_law_682 ?_
  refine lw_ld hx hb hX hbl hbA hS hl rfl rfl (3 : Int32) (by decide) (hj _ (by decide)) dL_law_683 dL_law_684 dL_law_685 dL_law_686 dL_law_687 ?_
  obtain ⟨v, SX', SM', e1, e2, hR'⟩ := q_lay hR (xs (x3 + 1).toNatClampNeg) (xs (x3 + 2).toNatClampNeg) (xs (x3 + 3).toNatClampNeg)
  refine lx_i B hP hS (rest := []) (n := 3) ⟨xw_mem 806 (by decide +kernel) rfl, xw_mem 98 (by decide +kernel) rfl, xw_mem 803 (by decide +kernel) rfl, by decide +kernel⟩ (xw_mem 804 (by decide +kernel) rfl) (xw_mem 805 (by decide +kernel) rfl) [.int (xs (x3 + 1).toNatClampNeg), .int (xs (x3 + 2).toNatClampNeg), .int (xs (x3 + 3).toNatClampNeg)] (c_X11_lay (z := z) hIx e1 H.size) (by decide) rfl rfl (Nat.le_of_ble_eq_true rfl) dL_law_688 (fun H locs hP hS => ?_)
  refine lv_aload_n hx hb dL_law_691 rfl (lv_at hl 2 rfl) ?_
  refine lw_ld hx hb hX hbl hbA hS hl rfl rfl (1 : Int32) (by decide) (hj _ (by decide)) dL_law_692 dL_law_693 dL_law_694 dL_law_695 dL_law_696 ?_
  refine lw_ld hx hb hX hbl hbA hS hl rfl rfl (2 : Int32) (by decide) (hj _ (by decide)) dL_law_697 dL_law_698 dL_law_699 dL_law_700 dL_law_701 ?_
  refine lw_ld hx hb hX hbl hbA hS hl rfl rfl (3 : Int32) (by decide) (hj _ (by decide)) dL_law_702 dL_law_703 dL_law_704 dL_law_705 dL_law_706 ?_
  refine lm_i B hP hS (rest := [.int v]) (n := 3) ⟨xw_mem 1541 (by decide +kernel) rfl, xw_mem 110 (by decide +kernel) rfl, xw_mem 1538 (by decide +kernel) rfl, by decide +kernel⟩ (xw_mem 1539 (by decide +kernel) rfl) (xw_mem 1540 (by decide +kernel) rfl) [.int (xs (x3 + 1).toNatClampNeg), .int (xs (x3 + 2).toNatClampNeg), .int (xs (x3 + 3).toNatClampNeg)] (c_X12_lay (z := z) hIm e2 H.size) (by decide) rfl rfl (Nat.le_of_ble_eq_true rfl) dL_law_707 (fun H locs hP hS => ?_)
  refine lv_icmp_eq (tgt := 1484) hx hb dL_law_710 (by decide) (fun _ => ?_) (fun cq => absurd rfl cq)
  exact kk _ _ _ _ hR' hP hS
theorem dL_law_715 : decode cL_law 715 = .ok (.aload_n 1, 1) := by decide +kernel
theorem dL_law_716 : decode cL_law 716 = .ok (.invokevirtual 82, 3) := by decide +kernel
theorem dL_law_719 : decode cL_law 719 = .ok (.aload_n 2, 1) := by decide +kernel
theorem dL_law_720 : decode cL_law 720 = .ok (.invokevirtual 85, 3) := by decide +kernel
theorem dL_law_723 : decode cL_law 723 = .ok (.if_icmp .eq 761, 3) := by decide +kernel
set_option maxHeartbeats 4000000 in
set_option maxRecDepth 100000 in
/-- worth -/
theorem lc_16 {p : Program} {l : Launch} {e : Env} {s : State} {m : MethodId} {below : List Frame} {meth : Method} {c : Code} {b L : Nat} {xs : Nat → Int32} {D : va_G} {cy : Nat → ClassId} {z a a' : Nat → Nat} {ls : Array Slot} {x3 : Int32} {Q : State → Prop} (B : lwB p s m meth c b L xs D cy z a a' ls x3) (kk : lwC p l e s m below meth c b D cy a a' ls Q 1484) : lwC p l e s m below meth c b D cy a a' ls Q 715 := by
  intro SX SM H locs hRR hP hS
  obtain ⟨η, gn, hR⟩ := hRR
  obtain ⟨⟨hx, hb, hr, hml, hown, hts, hX, hbl, hlocks, hgv⟩, hK, hIx, hIm, hEx, hDD, hl, hj⟩ := id B
  have hts' : ∀ w ∈ xTB, w.before #[Value.ref b] s = true := fun w hw => hts w (List.mem_filter.mp hw).1
  have hbA : ¬ (fun q : Nat => s.heap.size ≤ q) b := Nat.not_le.mpr hbl
  refine lv_aload_n hx hb dL_law_715 rfl (lv_at hl 1 rfl) ?_
  obtain ⟨v, SX', SM', e1, e2, hR'⟩ := q_worth hR 
  refine lx_i B hP hS (rest := []) (n := 0) ⟨xw_mem 843 (by decide +kernel) rfl, xw_mem 98 (by decide +kernel) rfl, xw_mem 840 (by decide +kernel) rfl, by decide +kernel⟩ (xw_mem 841 (by decide +kernel) rfl) (xw_mem 842 (by decide +kernel) rfl) [] (c_X11_worth (z := z) hIx e1 H.size) (by decide) rfl rfl (Nat.le_of_ble_eq_true rfl) dL_law_716 (fun H locs hP hS => ?_)
  refine lv_aload_n hx hb dL_law_719 rfl (lv_at hl 2 rfl) ?_
  refine lm_i B hP hS (rest := [.int v]) (n := 0) ⟨xw_mem 1557 (by decide +kernel) rfl, xw_mem 110 (by decide +kernel) rfl, xw_mem 1554 (by decide +kernel) rfl, by decide +kernel⟩ (xw_mem 1555 (by decide +kernel) rfl) (xw_mem 1556 (by decide +kernel) rfl) [] (c_X12_worth (z := z) hIm e2 H.size) (by decide) rfl rfl (Nat.le_of_ble_eq_true rfl) dL_law_720 (fun H locs hP hS => ?_)
  refine lv_icmp_eq (tgt := 1484) hx hb dL_law_723 (by decide) (fun _ => ?_) (fun cq => absurd rfl cq)
  exact kk _ _ _ _ hR' hP hS
theorem dL_law_728 : decode cL_law 728 = .ok (.aload_n 1, 1) := by decide +kernel
theorem dL_law_729 : decode cL_law 729 = .ok (.aload_n 0, 1) := by decide +kernel
theorem dL_law_730 : decode cL_law 730 = .ok (.iload_n 3, 1) := by decide +kernel
theorem dL_law_731 : decode cL_law 731 = .ok (.iconst 1, 1) := by decide +kernel
theorem dL_law_732 : decode cL_law 732 = .ok (.iadd, 1) := by decide +kernel
theorem dL_law_733 : decode cL_law 733 = .ok (.iaload, 1) := by decide +kernel
theorem dL_law_734 : decode cL_law 734 = .ok (.aload_n 0, 1) := by decide +kernel
theorem dL_law_735 : decode cL_law 735 = .ok (.iload_n 3, 1) := by decide +kernel
theorem dL_law_736 : decode cL_law 736 = .ok (.iconst 2, 1) := by decide +kernel
theorem dL_law_737 : decode cL_law 737 = .ok (.iadd, 1) := by decide +kernel
theorem dL_law_738 : decode cL_law 738 = .ok (.iaload, 1) := by decide +kernel
theorem dL_law_739 : decode cL_law 739 = .ok (.aload_n 0, 1) := by decide +kernel
theorem dL_law_740 : decode cL_law 740 = .ok (.iload_n 3, 1) := by decide +kernel
theorem dL_law_741 : decode cL_law 741 = .ok (.iconst 3, 1) := by decide +kernel
theorem dL_law_742 : decode cL_law 742 = .ok (.iadd, 1) := by decide +kernel
theorem dL_law_743 : decode cL_law 743 = .ok (.iaload, 1) := by decide +kernel
theorem dL_law_744 : decode cL_law 744 = .ok (.invokevirtual 86, 3) := by decide +kernel
theorem dL_law_747 : decode cL_law 747 = .ok (.aload_n 2, 1) := by decide +kernel
theorem dL_law_748 : decode cL_law 748 = .ok (.aload_n 0, 1) := by decide +kernel
theorem dL_law_749 : decode cL_law 749 = .ok (.iload_n 3, 1) := by decide +kernel
theorem dL_law_750 : decode cL_law 750 = .ok (.iconst 1, 1) := by decide +kernel
theorem dL_law_751 : decode cL_law 751 = .ok (.iadd, 1) := by decide +kernel
theorem dL_law_752 : decode cL_law 752 = .ok (.iaload, 1) := by decide +kernel
theorem dL_law_753 : decode cL_law 753 = .ok (.aload_n 0, 1) := by decide +kernel
theorem dL_law_754 : decode cL_law 754 = .ok (.iload_n 3, 1) := by decide +kernel
theorem dL_law_755 : decode cL_law 755 = .ok (.iconst 2, 1) := by decide +kernel
theorem dL_law_756 : decode cL_law 756 = .ok (.iadd, 1) := by decide +kernel
theorem dL_law_757 : decode cL_law 757 = .ok (.iaload, 1) := by decide +kernel
theorem dL_law_758 : decode cL_law 758 = .ok (.aload_n 0, 1) := by decide +kernel
theorem dL_law_759 : decode cL_law 759 = .ok (.iload_n 3, 1) := by decide +kernel
theorem dL_law_760 : decode cL_law 760 = .ok (.iconst 3, 1) := by decide +kernel
theorem dL_law_761 : decode cL_law 761 = .ok (.iadd, 1) := by decide +kernel
theorem dL_law_762 : decode cL_law 762 = .ok (.iaload, 1) := by decide +kernel
theorem dL_law_763 : decode cL_law 763 = .ok (.invokevirtual 89, 3) := by decide +kernel
theorem dL_law_766 : decode cL_law 766 = .ok (.if_icmp .eq 718, 3) := by decide +kernel
set_option maxHeartbeats 4000000 in
set_option maxRecDepth 100000 in
/-- sell -/
theorem lc_17 {p : Program} {l : Launch} {e : Env} {s : State} {m : MethodId} {below : List Frame} {meth : Method} {c : Code} {b L : Nat} {xs : Nat → Int32} {D : va_G} {cy : Nat → ClassId} {z a a' : Nat → Nat} {ls : Array Slot} {x3 : Int32} {Q : State → Prop} (B : lwB p s m meth c b L xs D cy z a a' ls x3) (kk : lwC p l e s m below meth c b D cy a a' ls Q 1484) : lwC p l e s m below meth c b D cy a a' ls Q 728 := by
  intro SX SM H locs hRR hP hS
  obtain ⟨η, gn, hR⟩ := hRR
  obtain ⟨⟨hx, hb, hr, hml, hown, hts, hX, hbl, hlocks, hgv⟩, hK, hIx, hIm, hEx, hDD, hl, hj⟩ := id B
  have hts' : ∀ w ∈ xTB, w.before #[Value.ref b] s = true := fun w hw => hts w (List.mem_filter.mp hw).1
  have hbA : ¬ (fun q : Nat => s.heap.size ≤ q) b := Nat.not_le.mpr hbl
  refine lv_aload_n hx hb dL_law_728 rfl (lv_at hl 1 rfl) ?_
  refine lw_ld hx hb hX hbl hbA hS hl rfl rfl (1 : Int32) (by decide) (hj _ (by decide)) dL_law_729 dL_law_730 dL_law_731 dL_law_732 dL_law_733 ?_
  refine lw_ld hx hb hX hbl hbA hS hl rfl rfl (2 : Int32) (by decide) (hj _ (by decide)) dL_law_734 dL_law_735 dL_law_736 dL_law_737 dL_law_738 ?_
  refine lw_ld hx hb hX hbl hbA hS hl rfl rfl (3 : Int32) (by decide) (hj _ (by decide)) dL_law_739 dL_law_740 dL_law_741 dL_law_742 dL_law_743 ?_
  obtain ⟨v, SX', SM', e1, e2, hR'⟩ := q_sell hR (xs (x3 + 1).toNatClampNeg) (xs (x3 + 2).toNatClampNeg) (xs (x3 + 3).toNatClampNeg)
  refine lx_i B hP hS (rest := []) (n := 3) ⟨xw_mem 851 (by decide +kernel) rfl, xw_mem 98 (by decide +kernel) rfl, xw_mem 848 (by decide +kernel) rfl, by decide +kernel⟩ (xw_mem 849 (by decide +kernel) rfl) (xw_mem 850 (by decide +kernel) rfl) [.int (xs (x3 + 1).toNatClampNeg), .int (xs (x3 + 2).toNatClampNeg), .int (xs (x3 + 3).toNatClampNeg)] (c_X11_sell (z := z) hIx e1 H.size) (by decide) rfl rfl (Nat.le_of_ble_eq_true rfl) dL_law_744 (fun H locs hP hS => ?_)
  refine lv_aload_n hx hb dL_law_747 rfl (lv_at hl 2 rfl) ?_
  refine lw_ld hx hb hX hbl hbA hS hl rfl rfl (1 : Int32) (by decide) (hj _ (by decide)) dL_law_748 dL_law_749 dL_law_750 dL_law_751 dL_law_752 ?_
  refine lw_ld hx hb hX hbl hbA hS hl rfl rfl (2 : Int32) (by decide) (hj _ (by decide)) dL_law_753 dL_law_754 dL_law_755 dL_law_756 dL_law_757 ?_
  refine lw_ld hx hb hX hbl hbA hS hl rfl rfl (3 : Int32) (by decide) (hj _ (by decide)) dL_law_758 dL_law_759 dL_law_760 dL_law_761 dL_law_762 ?_
  refine lm_i B hP hS (rest := [.int v]) (n := 3) ⟨xw_mem 1565 (by decide +kernel) rfl, xw_mem 110 (by decide +kernel) rfl, xw_mem 1562 (by decide +kernel) rfl, by decide +kernel⟩ (xw_mem 1563 (by decide +kernel) rfl) (xw_mem 1564 (by decide +kernel) rfl) [.int (xs (x3 + 1).toNatClampNeg), .int (xs (x3 + 2).toNatClampNeg), .int (xs (x3 + 3).toNatClampNeg)] (c_X12_sell (z := z) hIm e2 H.size) (by decide) rfl rfl (Nat.le_of_ble_eq_true rfl) dL_law_763 (fun H locs hP hS => ?_)
  refine lv_icmp_eq (tgt := 1484) hx hb dL_law_766 (by decide) (fun _ => ?_) (fun cq => absurd rfl cq)
  exact kk _ _ _ _ hR' hP hS
