/-! part aq: the law's cases 18 to 23 -/
theorem dL_law_771 : decode cL_law 771 = .ok (.aload_n 1, 1) := by decide +kernel
theorem dL_law_772 : decode cL_law 772 = .ok (.invokevirtual 90, 3) := by decide +kernel
theorem dL_law_775 : decode cL_law 775 = .ok (.aload_n 2, 1) := by decide +kernel
theorem dL_law_776 : decode cL_law 776 = .ok (.invokevirtual 93, 3) := by decide +kernel
theorem dL_law_779 : decode cL_law 779 = .ok (.if_icmp .eq 705, 3) := by decide +kernel
set_option maxHeartbeats 4000000 in
set_option maxRecDepth 100000 in
/-- whose -/
theorem lc_18 {p : Program} {l : Launch} {e : Env} {s : State} {m : MethodId} {below : List Frame} {meth : Method} {c : Code} {b L : Nat} {xs : Nat → Int32} {D : va_G} {cy : Nat → ClassId} {z a a' : Nat → Nat} {ls : Array Slot} {x3 : Int32} {Q : State → Prop} (B : lwB p s m meth c b L xs D cy z a a' ls x3) (kk : lwC p l e s m below meth c b D cy a a' ls Q 1484) : lwC p l e s m below meth c b D cy a a' ls Q 771 := by
  intro SX SM H locs hRR hP hS
  obtain ⟨η, gn, hR⟩ := hRR
  obtain ⟨⟨hx, hb, hr, hml, hown, hts, hX, hbl, hlocks, hgv⟩, hK, hIx, hIm, hEx, hDD, hl, hj⟩ := id B
  have hts' : ∀ w ∈ xTB, w.before #[Value.ref b] s = true := fun w hw => hts w (List.mem_filter.mp hw).1
  have hbA : ¬ (fun q : Nat => s.heap.size ≤ q) b := Nat.not_le.mpr hbl
  refine lv_aload_n hx hb dL_law_771 rfl (lv_at hl 1 rfl) ?_
  obtain ⟨v, SX', SM', e1, e2, hR'⟩ := q_whose hR 
  refine lx_i B hP hS (rest := []) (n := 0) ⟨xw_mem 860 (by decide +kernel) rfl, xw_mem 98 (by decide +kernel) rfl, xw_mem 857 (by decide +kernel) rfl, by decide +kernel⟩ (xw_mem 858 (by decide +kernel) rfl) (xw_mem 859 (by decide +kernel) rfl) [] (c_X11_whose (z := z) hIx e1 H.size) (by decide) rfl rfl (Nat.le_of_ble_eq_true rfl) dL_law_772 (fun H locs hP hS => ?_)
  refine lv_aload_n hx hb dL_law_775 rfl (lv_at hl 2 rfl) ?_
  refine lm_i B hP hS (rest := [.int v]) (n := 0) ⟨xw_mem 1569 (by decide +kernel) rfl, xw_mem 110 (by decide +kernel) rfl, xw_mem 1566 (by decide +kernel) rfl, by decide +kernel⟩ (xw_mem 1567 (by decide +kernel) rfl) (xw_mem 1568 (by decide +kernel) rfl) [] (c_X12_whose (z := z) hIm e2 H.size) (by decide) rfl rfl (Nat.le_of_ble_eq_true rfl) dL_law_776 (fun H locs hP hS => ?_)
  refine lv_icmp_eq (tgt := 1484) hx hb dL_law_779 (by decide) (fun _ => ?_) (fun cq => absurd rfl cq)
  exact kk _ _ _ _ hR' hP hS
theorem dL_law_784 : decode cL_law 784 = .ok (.aload_n 1, 1) := by decide +kernel
theorem dL_law_785 : decode cL_law 785 = .ok (.aload_n 0, 1) := by decide +kernel
theorem dL_law_786 : decode cL_law 786 = .ok (.iload_n 3, 1) := by decide +kernel
theorem dL_law_787 : decode cL_law 787 = .ok (.iconst 1, 1) := by decide +kernel
theorem dL_law_788 : decode cL_law 788 = .ok (.iadd, 1) := by decide +kernel
theorem dL_law_789 : decode cL_law 789 = .ok (.iaload, 1) := by decide +kernel
theorem dL_law_790 : decode cL_law 790 = .ok (.aload_n 0, 1) := by decide +kernel
theorem dL_law_791 : decode cL_law 791 = .ok (.iload_n 3, 1) := by decide +kernel
theorem dL_law_792 : decode cL_law 792 = .ok (.iconst 2, 1) := by decide +kernel
theorem dL_law_793 : decode cL_law 793 = .ok (.iadd, 1) := by decide +kernel
theorem dL_law_794 : decode cL_law 794 = .ok (.iaload, 1) := by decide +kernel
theorem dL_law_795 : decode cL_law 795 = .ok (.invokevirtual 94, 3) := by decide +kernel
theorem dL_law_798 : decode cL_law 798 = .ok (.aload_n 2, 1) := by decide +kernel
theorem dL_law_799 : decode cL_law 799 = .ok (.aload_n 0, 1) := by decide +kernel
theorem dL_law_800 : decode cL_law 800 = .ok (.iload_n 3, 1) := by decide +kernel
theorem dL_law_801 : decode cL_law 801 = .ok (.iconst 1, 1) := by decide +kernel
theorem dL_law_802 : decode cL_law 802 = .ok (.iadd, 1) := by decide +kernel
theorem dL_law_803 : decode cL_law 803 = .ok (.iaload, 1) := by decide +kernel
theorem dL_law_804 : decode cL_law 804 = .ok (.aload_n 0, 1) := by decide +kernel
theorem dL_law_805 : decode cL_law 805 = .ok (.iload_n 3, 1) := by decide +kernel
theorem dL_law_806 : decode cL_law 806 = .ok (.iconst 2, 1) := by decide +kernel
theorem dL_law_807 : decode cL_law 807 = .ok (.iadd, 1) := by decide +kernel
theorem dL_law_808 : decode cL_law 808 = .ok (.iaload, 1) := by decide +kernel
theorem dL_law_809 : decode cL_law 809 = .ok (.invokevirtual 97, 3) := by decide +kernel
theorem dL_law_812 : decode cL_law 812 = .ok (.if_icmp .eq 672, 3) := by decide +kernel
set_option maxHeartbeats 4000000 in
set_option maxRecDepth 100000 in
/-- judge -/
theorem lc_19 {p : Program} {l : Launch} {e : Env} {s : State} {m : MethodId} {below : List Frame} {meth : Method} {c : Code} {b L : Nat} {xs : Nat → Int32} {D : va_G} {cy : Nat → ClassId} {z a a' : Nat → Nat} {ls : Array Slot} {x3 : Int32} {Q : State → Prop} (B : lwB p s m meth c b L xs D cy z a a' ls x3) (kk : lwC p l e s m below meth c b D cy a a' ls Q 1484) : lwC p l e s m below meth c b D cy a a' ls Q 784 := by
  intro SX SM H locs hRR hP hS
  obtain ⟨η, gn, hR⟩ := hRR
  obtain ⟨⟨hx, hb, hr, hml, hown, hts, hX, hbl, hlocks, hgv⟩, hK, hIx, hIm, hEx, hDD, hl, hj⟩ := id B
  have hts' : ∀ w ∈ xTB, w.before #[Value.ref b] s = true := fun w hw => hts w (List.mem_filter.mp hw).1
  have hbA : ¬ (fun q : Nat => s.heap.size ≤ q) b := Nat.not_le.mpr hbl
  refine lv_aload_n hx hb dL_law_784 rfl (lv_at hl 1 rfl) ?_
  refine lw_ld hx hb hX hbl hbA hS hl rfl rfl (1 : Int32) (by decide) (hj _ (by decide)) dL_law_785 dL_law_786 dL_law_787 dL_law_788 dL_law_789 ?_
  refine lw_ld hx hb hX hbl hbA hS hl rfl rfl (2 : Int32) (by decide) (hj _ (by decide)) dL_law_790 dL_law_791 dL_law_792 dL_law_793 dL_law_794 ?_
  obtain ⟨v, SX', SM', e1, e2, hR'⟩ := q_judge hR (xs (x3 + 1).toNatClampNeg) (xs (x3 + 2).toNatClampNeg)
  refine lx_i B hP hS (rest := []) (n := 2) ⟨xw_mem 868 (by decide +kernel) rfl, xw_mem 98 (by decide +kernel) rfl, xw_mem 865 (by decide +kernel) rfl, by decide +kernel⟩ (xw_mem 866 (by decide +kernel) rfl) (xw_mem 867 (by decide +kernel) rfl) [.int (xs (x3 + 1).toNatClampNeg), .int (xs (x3 + 2).toNatClampNeg)] (c_X11_judge (z := z) hIx e1 H.size) (by decide) rfl rfl (Nat.le_of_ble_eq_true rfl) dL_law_795 (fun H locs hP hS => ?_)
  refine lv_aload_n hx hb dL_law_798 rfl (lv_at hl 2 rfl) ?_
  refine lw_ld hx hb hX hbl hbA hS hl rfl rfl (1 : Int32) (by decide) (hj _ (by decide)) dL_law_799 dL_law_800 dL_law_801 dL_law_802 dL_law_803 ?_
  refine lw_ld hx hb hX hbl hbA hS hl rfl rfl (2 : Int32) (by decide) (hj _ (by decide)) dL_law_804 dL_law_805 dL_law_806 dL_law_807 dL_law_808 ?_
  refine lm_i B hP hS (rest := [.int v]) (n := 2) ⟨xw_mem 1577 (by decide +kernel) rfl, xw_mem 110 (by decide +kernel) rfl, xw_mem 1574 (by decide +kernel) rfl, by decide +kernel⟩ (xw_mem 1575 (by decide +kernel) rfl) (xw_mem 1576 (by decide +kernel) rfl) [.int (xs (x3 + 1).toNatClampNeg), .int (xs (x3 + 2).toNatClampNeg)] (c_X12_judge (z := z) hIm e2 H.size) (by decide) rfl rfl (Nat.le_of_ble_eq_true rfl) dL_law_809 (fun H locs hP hS => ?_)
  refine lv_icmp_eq (tgt := 1484) hx hb dL_law_812 (by decide) (fun _ => ?_) (fun cq => absurd rfl cq)
  exact kk _ _ _ _ hR' hP hS
theorem dL_law_817 : decode cL_law 817 = .ok (.aload_n 1, 1) := by decide +kernel
theorem dL_law_818 : decode cL_law 818 = .ok (.aload_n 0, 1) := by decide +kernel
theorem dL_law_819 : decode cL_law 819 = .ok (.iload_n 3, 1) := by decide +kernel
theorem dL_law_820 : decode cL_law 820 = .ok (.iconst 1, 1) := by decide +kernel
theorem dL_law_821 : decode cL_law 821 = .ok (.iadd, 1) := by decide +kernel
theorem dL_law_822 : decode cL_law 822 = .ok (.iaload, 1) := by decide +kernel
theorem dL_law_823 : decode cL_law 823 = .ok (.aload_n 0, 1) := by decide +kernel
theorem dL_law_824 : decode cL_law 824 = .ok (.iload_n 3, 1) := by decide +kernel
theorem dL_law_825 : decode cL_law 825 = .ok (.iconst 2, 1) := by decide +kernel
theorem dL_law_826 : decode cL_law 826 = .ok (.iadd, 1) := by decide +kernel
theorem dL_law_827 : decode cL_law 827 = .ok (.iaload, 1) := by decide +kernel
theorem dL_law_828 : decode cL_law 828 = .ok (.aload_n 0, 1) := by decide +kernel
theorem dL_law_829 : decode cL_law 829 = .ok (.iload_n 3, 1) := by decide +kernel
theorem dL_law_830 : decode cL_law 830 = .ok (.iconst 3, 1) := by decide +kernel
theorem dL_law_831 : decode cL_law 831 = .ok (.iadd, 1) := by decide +kernel
theorem dL_law_832 : decode cL_law 832 = .ok (.iaload, 1) := by decide +kernel
theorem dL_law_833 : decode cL_law 833 = .ok (.invokevirtual 98, 3) := by decide +kernel
theorem dL_law_836 : decode cL_law 836 = .ok (.aload_n 2, 1) := by decide +kernel
theorem dL_law_837 : decode cL_law 837 = .ok (.aload_n 0, 1) := by decide +kernel
theorem dL_law_838 : decode cL_law 838 = .ok (.iload_n 3, 1) := by decide +kernel
theorem dL_law_839 : decode cL_law 839 = .ok (.iconst 1, 1) := by decide +kernel
theorem dL_law_840 : decode cL_law 840 = .ok (.iadd, 1) := by decide +kernel
theorem dL_law_841 : decode cL_law 841 = .ok (.iaload, 1) := by decide +kernel
theorem dL_law_842 : decode cL_law 842 = .ok (.aload_n 0, 1) := by decide +kernel
theorem dL_law_843 : decode cL_law 843 = .ok (.iload_n 3, 1) := by decide +kernel
theorem dL_law_844 : decode cL_law 844 = .ok (.iconst 2, 1) := by decide +kernel
theorem dL_law_845 : decode cL_law 845 = .ok (.iadd, 1) := by decide +kernel
theorem dL_law_846 : decode cL_law 846 = .ok (.iaload, 1) := by decide +kernel
theorem dL_law_847 : decode cL_law 847 = .ok (.aload_n 0, 1) := by decide +kernel
theorem dL_law_848 : decode cL_law 848 = .ok (.iload_n 3, 1) := by decide +kernel
theorem dL_law_849 : decode cL_law 849 = .ok (.iconst 3, 1) := by decide +kernel
theorem dL_law_850 : decode cL_law 850 = .ok (.iadd, 1) := by decide +kernel
theorem dL_law_851 : decode cL_law 851 = .ok (.iaload, 1) := by decide +kernel
theorem dL_law_852 : decode cL_law 852 = .ok (.invokevirtual 101, 3) := by decide +kernel
theorem dL_law_855 : decode cL_law 855 = .ok (.if_icmp .eq 629, 3) := by decide +kernel
set_option maxHeartbeats 4000000 in
set_option maxRecDepth 100000 in
/-- book -/
theorem lc_20 {p : Program} {l : Launch} {e : Env} {s : State} {m : MethodId} {below : List Frame} {meth : Method} {c : Code} {b L : Nat} {xs : Nat → Int32} {D : va_G} {cy : Nat → ClassId} {z a a' : Nat → Nat} {ls : Array Slot} {x3 : Int32} {Q : State → Prop} (B : lwB p s m meth c b L xs D cy z a a' ls x3) (kk : lwC p l e s m below meth c b D cy a a' ls Q 1484) : lwC p l e s m below meth c b D cy a a' ls Q 817 := by
  intro SX SM H locs hRR hP hS
  obtain ⟨η, gn, hR⟩ := hRR
  obtain ⟨⟨hx, hb, hr, hml, hown, hts, hX, hbl, hlocks, hgv⟩, hK, hIx, hIm, hEx, hDD, hl, hj⟩ := id B
  have hts' : ∀ w ∈ xTB, w.before #[Value.ref b] s = true := fun w hw => hts w (List.mem_filter.mp hw).1
  have hbA : ¬ (fun q : Nat => s.heap.size ≤ q) b := Nat.not_le.mpr hbl
  refine lv_aload_n hx hb dL_law_817 rfl (lv_at hl 1 rfl) ?_
  refine lw_ld hx hb hX hbl hbA hS hl rfl rfl (1 : Int32) (by decide) (hj _ (by decide)) dL_law_818 dL_law_819 dL_law_820 dL_law_821 dL_law_822 ?_
  refine lw_ld hx hb hX hbl hbA hS hl rfl rfl (2 : Int32) (by decide) (hj _ (by decide)) dL_law_823 dL_law_824 dL_law_825 dL_law_826 dL_law_827 ?_
  refine lw_ld hx hb hX hbl hbA hS hl rfl rfl (3 : Int32) (by decide) (hj _ (by decide)) dL_law_828 dL_law_829 dL_law_830 dL_law_831 dL_law_832 ?_
  obtain ⟨v, SX', SM', e1, e2, hR'⟩ := q_book hR (xs (x3 + 1).toNatClampNeg) (xs (x3 + 2).toNatClampNeg) (xs (x3 + 3).toNatClampNeg)
  refine lx_i B hP hS (rest := []) (n := 3) ⟨xw_mem 883 (by decide +kernel) rfl, xw_mem 98 (by decide +kernel) rfl, xw_mem 880 (by decide +kernel) rfl, by decide +kernel⟩ (xw_mem 881 (by decide +kernel) rfl) (xw_mem 882 (by decide +kernel) rfl) [.int (xs (x3 + 1).toNatClampNeg), .int (xs (x3 + 2).toNatClampNeg), .int (xs (x3 + 3).toNatClampNeg)] (c_X11_book (z := z) hIx e1 H.size) (by decide) rfl rfl (Nat.le_of_ble_eq_true rfl) dL_law_833 (fun H locs hP hS => ?_)
  refine lv_aload_n hx hb dL_law_836 rfl (lv_at hl 2 rfl) ?_
  refine lw_ld hx hb hX hbl hbA hS hl rfl rfl (1 : Int32) (by decide) (hj _ (by decide)) dL_law_837 dL_law_838 dL_law_839 dL_law_840 dL_law_841 ?_
  refine lw_ld hx hb hX hbl hbA hS hl rfl rfl (2 : Int32) (by decide) (hj _ (by decide)) dL_law_842 dL_law_843 dL_law_844 dL_law_845 dL_law_846 ?_
  refine lw_ld hx hb hX hbl hbA hS hl rfl rfl (3 : Int32) (by decide) (hj _ (by decide)) dL_law_847 dL_law_848 dL_law_849 dL_law_850 dL_law_851 ?_
  refine lm_i B hP hS (rest := [.int v]) (n := 3) ⟨xw_mem 1585 (by decide +kernel) rfl, xw_mem 110 (by decide +kernel) rfl, xw_mem 1582 (by decide +kernel) rfl, by decide +kernel⟩ (xw_mem 1583 (by decide +kernel) rfl) (xw_mem 1584 (by decide +kernel) rfl) [.int (xs (x3 + 1).toNatClampNeg), .int (xs (x3 + 2).toNatClampNeg), .int (xs (x3 + 3).toNatClampNeg)] (c_X12_book (z := z) hIm e2 H.size) (by decide) rfl rfl (Nat.le_of_ble_eq_true rfl) dL_law_852 (fun H locs hP hS => ?_)
  refine lv_icmp_eq (tgt := 1484) hx hb dL_law_855 (by decide) (fun _ => ?_) (fun cq => absurd rfl cq)
  exact kk _ _ _ _ hR' hP hS
theorem dL_law_860 : decode cL_law 860 = .ok (.aload_n 1, 1) := by decide +kernel
theorem dL_law_861 : decode cL_law 861 = .ok (.aload_n 0, 1) := by decide +kernel
theorem dL_law_862 : decode cL_law 862 = .ok (.iload_n 3, 1) := by decide +kernel
theorem dL_law_863 : decode cL_law 863 = .ok (.iconst 1, 1) := by decide +kernel
theorem dL_law_864 : decode cL_law 864 = .ok (.iadd, 1) := by decide +kernel
theorem dL_law_865 : decode cL_law 865 = .ok (.iaload, 1) := by decide +kernel
theorem dL_law_866 : decode cL_law 866 = .ok (.aload_n 0, 1) := by decide +kernel
theorem dL_law_867 : decode cL_law 867 = .ok (.iload_n 3, 1) := by decide +kernel
theorem dL_law_868 : decode cL_law 868 = .ok (.iconst 2, 1) := by decide +kernel
theorem dL_law_869 : decode cL_law 869 = .ok (.iadd, 1) := by decide +kernel
theorem dL_law_870 : decode cL_law 870 = .ok (.iaload, 1) := by decide +kernel
theorem dL_law_871 : decode cL_law 871 = .ok (.invokevirtual 102, 3) := by decide +kernel
theorem dL_law_874 : decode cL_law 874 = .ok (.aload_n 2, 1) := by decide +kernel
theorem dL_law_875 : decode cL_law 875 = .ok (.aload_n 0, 1) := by decide +kernel
theorem dL_law_876 : decode cL_law 876 = .ok (.iload_n 3, 1) := by decide +kernel
theorem dL_law_877 : decode cL_law 877 = .ok (.iconst 1, 1) := by decide +kernel
theorem dL_law_878 : decode cL_law 878 = .ok (.iadd, 1) := by decide +kernel
theorem dL_law_879 : decode cL_law 879 = .ok (.iaload, 1) := by decide +kernel
theorem dL_law_880 : decode cL_law 880 = .ok (.aload_n 0, 1) := by decide +kernel
theorem dL_law_881 : decode cL_law 881 = .ok (.iload_n 3, 1) := by decide +kernel
theorem dL_law_882 : decode cL_law 882 = .ok (.iconst 2, 1) := by decide +kernel
theorem dL_law_883 : decode cL_law 883 = .ok (.iadd, 1) := by decide +kernel
theorem dL_law_884 : decode cL_law 884 = .ok (.iaload, 1) := by decide +kernel
theorem dL_law_885 : decode cL_law 885 = .ok (.invokevirtual 105, 3) := by decide +kernel
theorem dL_law_888 : decode cL_law 888 = .ok (.if_icmp .eq 596, 3) := by decide +kernel
set_option maxHeartbeats 4000000 in
set_option maxRecDepth 100000 in
/-- byTurns -/
theorem lc_21 {p : Program} {l : Launch} {e : Env} {s : State} {m : MethodId} {below : List Frame} {meth : Method} {c : Code} {b L : Nat} {xs : Nat → Int32} {D : va_G} {cy : Nat → ClassId} {z a a' : Nat → Nat} {ls : Array Slot} {x3 : Int32} {Q : State → Prop} (B : lwB p s m meth c b L xs D cy z a a' ls x3) (kk : lwC p l e s m below meth c b D cy a a' ls Q 1484) : lwC p l e s m below meth c b D cy a a' ls Q 860 := by
  intro SX SM H locs hRR hP hS
  obtain ⟨η, gn, hR⟩ := hRR
  obtain ⟨⟨hx, hb, hr, hml, hown, hts, hX, hbl, hlocks, hgv⟩, hK, hIx, hIm, hEx, hDD, hl, hj⟩ := id B
  have hts' : ∀ w ∈ xTB, w.before #[Value.ref b] s = true := fun w hw => hts w (List.mem_filter.mp hw).1
  have hbA : ¬ (fun q : Nat => s.heap.size ≤ q) b := Nat.not_le.mpr hbl
  refine lv_aload_n hx hb dL_law_860 rfl (lv_at hl 1 rfl) ?_
  refine lw_ld hx hb hX hbl hbA hS hl rfl rfl (1 : Int32) (by decide) (hj _ (by decide)) dL_law_861 dL_law_862 dL_law_863 dL_law_864 dL_law_865 ?_
  refine lw_ld hx hb hX hbl hbA hS hl rfl rfl (2 : Int32) (by decide) (hj _ (by decide)) dL_law_866 dL_law_867 dL_law_868 dL_law_869 dL_law_870 ?_
  obtain ⟨v, SX', SM', e1, e2, hR'⟩ := q_byTurns hR (xs (x3 + 1).toNatClampNeg) (xs (x3 + 2).toNatClampNeg)
  refine lx_i B hP hS (rest := []) (n := 2) ⟨xw_mem 894 (by decide +kernel) rfl, xw_mem 98 (by decide +kernel) rfl, xw_mem 891 (by decide +kernel) rfl, by decide +kernel⟩ (xw_mem 892 (by decide +kernel) rfl) (xw_mem 893 (by decide +kernel) rfl) [.int (xs (x3 + 1).toNatClampNeg), .int (xs (x3 + 2).toNatClampNeg)] (c_X11_byTurns (z := z) hIx e1 H.size) (by decide) rfl rfl (Nat.le_of_ble_eq_true rfl) dL_law_871 (fun H locs hP hS => ?_)
  refine lv_aload_n hx hb dL_law_874 rfl (lv_at hl 2 rfl) ?_
  refine lw_ld hx hb hX hbl hbA hS hl rfl rfl (1 : Int32) (by decide) (hj _ (by decide)) dL_law_875 dL_law_876 dL_law_877 dL_law_878 dL_law_879 ?_
  refine lw_ld hx hb hX hbl hbA hS hl rfl rfl (2 : Int32) (by decide) (hj _ (by decide)) dL_law_880 dL_law_881 dL_law_882 dL_law_883 dL_law_884 ?_
  refine lm_i B hP hS (rest := [.int v]) (n := 2) ⟨xw_mem 1593 (by decide +kernel) rfl, xw_mem 110 (by decide +kernel) rfl, xw_mem 1590 (by decide +kernel) rfl, by decide +kernel⟩ (xw_mem 1591 (by decide +kernel) rfl) (xw_mem 1592 (by decide +kernel) rfl) [.int (xs (x3 + 1).toNatClampNeg), .int (xs (x3 + 2).toNatClampNeg)] (c_X12_byTurns (z := z) hIm e2 H.size) (by decide) rfl rfl (Nat.le_of_ble_eq_true rfl) dL_law_885 (fun H locs hP hS => ?_)
  refine lv_icmp_eq (tgt := 1484) hx hb dL_law_888 (by decide) (fun _ => ?_) (fun cq => absurd rfl cq)
  exact kk _ _ _ _ hR' hP hS
theorem dL_law_893 : decode cL_law 893 = .ok (.aload_n 1, 1) := by decide +kernel
theorem dL_law_894 : decode cL_law 894 = .ok (.aload_n 0, 1) := by decide +kernel
theorem dL_law_895 : decode cL_law 895 = .ok (.iload_n 3, 1) := by decide +kernel
theorem dL_law_896 : decode cL_law 896 = .ok (.iconst 1, 1) := by decide +kernel
theorem dL_law_897 : decode cL_law 897 = .ok (.iadd, 1) := by decide +kernel
theorem dL_law_898 : decode cL_law 898 = .ok (.iaload, 1) := by decide +kernel
theorem dL_law_899 : decode cL_law 899 = .ok (.aload_n 0, 1) := by decide +kernel
theorem dL_law_900 : decode cL_law 900 = .ok (.iload_n 3, 1) := by decide +kernel
theorem dL_law_901 : decode cL_law 901 = .ok (.iconst 2, 1) := by decide +kernel
theorem dL_law_902 : decode cL_law 902 = .ok (.iadd, 1) := by decide +kernel
theorem dL_law_903 : decode cL_law 903 = .ok (.iaload, 1) := by decide +kernel
theorem dL_law_904 : decode cL_law 904 = .ok (.aload_n 0, 1) := by decide +kernel
theorem dL_law_905 : decode cL_law 905 = .ok (.iload_n 3, 1) := by decide +kernel
theorem dL_law_906 : decode cL_law 906 = .ok (.iconst 3, 1) := by decide +kernel
theorem dL_law_907 : decode cL_law 907 = .ok (.iadd, 1) := by decide +kernel
theorem dL_law_908 : decode cL_law 908 = .ok (.iaload, 1) := by decide +kernel
theorem dL_law_909 : decode cL_law 909 = .ok (.invokevirtual 106, 3) := by decide +kernel
theorem dL_law_912 : decode cL_law 912 = .ok (.aload_n 2, 1) := by decide +kernel
theorem dL_law_913 : decode cL_law 913 = .ok (.aload_n 0, 1) := by decide +kernel
theorem dL_law_914 : decode cL_law 914 = .ok (.iload_n 3, 1) := by decide +kernel
theorem dL_law_915 : decode cL_law 915 = .ok (.iconst 1, 1) := by decide +kernel
theorem dL_law_916 : decode cL_law 916 = .ok (.iadd, 1) := by decide +kernel
theorem dL_law_917 : decode cL_law 917 = .ok (.iaload, 1) := by decide +kernel
theorem dL_law_918 : decode cL_law 918 = .ok (.aload_n 0, 1) := by decide +kernel
theorem dL_law_919 : decode cL_law 919 = .ok (.iload_n 3, 1) := by decide +kernel
theorem dL_law_920 : decode cL_law 920 = .ok (.iconst 2, 1) := by decide +kernel
theorem dL_law_921 : decode cL_law 921 = .ok (.iadd, 1) := by decide +kernel
theorem dL_law_922 : decode cL_law 922 = .ok (.iaload, 1) := by decide +kernel
theorem dL_law_923 : decode cL_law 923 = .ok (.aload_n 0, 1) := by decide +kernel
theorem dL_law_924 : decode cL_law 924 = .ok (.iload_n 3, 1) := by decide +kernel
theorem dL_law_925 : decode cL_law 925 = .ok (.iconst 3, 1) := by decide +kernel
theorem dL_law_926 : decode cL_law 926 = .ok (.iadd, 1) := by decide +kernel
theorem dL_law_927 : decode cL_law 927 = .ok (.iaload, 1) := by decide +kernel
theorem dL_law_928 : decode cL_law 928 = .ok (.invokevirtual 109, 3) := by decide +kernel
theorem dL_law_931 : decode cL_law 931 = .ok (.if_icmp .eq 553, 3) := by decide +kernel
set_option maxHeartbeats 4000000 in
set_option maxRecDepth 100000 in
/-- drawn -/
theorem lc_22 {p : Program} {l : Launch} {e : Env} {s : State} {m : MethodId} {below : List Frame} {meth : Method} {c : Code} {b L : Nat} {xs : Nat → Int32} {D : va_G} {cy : Nat → ClassId} {z a a' : Nat → Nat} {ls : Array Slot} {x3 : Int32} {Q : State → Prop} (B : lwB p s m meth c b L xs D cy z a a' ls x3) (kk : lwC p l e s m below meth c b D cy a a' ls Q 1484) : lwC p l e s m below meth c b D cy a a' ls Q 893 := by
  intro SX SM H locs hRR hP hS
  obtain ⟨η, gn, hR⟩ := hRR
  obtain ⟨⟨hx, hb, hr, hml, hown, hts, hX, hbl, hlocks, hgv⟩, hK, hIx, hIm, hEx, hDD, hl, hj⟩ := id B
  have hts' : ∀ w ∈ xTB, w.before #[Value.ref b] s = true := fun w hw => hts w (List.mem_filter.mp hw).1
  have hbA : ¬ (fun q : Nat => s.heap.size ≤ q) b := Nat.not_le.mpr hbl
  refine lv_aload_n hx hb dL_law_893 rfl (lv_at hl 1 rfl) ?_
  refine lw_ld hx hb hX hbl hbA hS hl rfl rfl (1 : Int32) (by decide) (hj _ (by decide)) dL_law_894 dL_law_895 dL_law_896 dL_law_897 dL_law_898 ?_
  refine lw_ld hx hb hX hbl hbA hS hl rfl rfl (2 : Int32) (by decide) (hj _ (by decide)) dL_law_899 dL_law_900 dL_law_901 dL_law_902 dL_law_903 ?_
  refine lw_ld hx hb hX hbl hbA hS hl rfl rfl (3 : Int32) (by decide) (hj _ (by decide)) dL_law_904 dL_law_905 dL_law_906 dL_law_907 dL_law_908 ?_
  obtain ⟨v, SX', SM', e1, e2, hR'⟩ := q_drawn hR (xs (x3 + 1).toNatClampNeg) (xs (x3 + 2).toNatClampNeg) (xs (x3 + 3).toNatClampNeg)
  refine lx_i B hP hS (rest := []) (n := 3) ⟨xw_mem 919 (by decide +kernel) rfl, xw_mem 98 (by decide +kernel) rfl, xw_mem 916 (by decide +kernel) rfl, by decide +kernel⟩ (xw_mem 917 (by decide +kernel) rfl) (xw_mem 918 (by decide +kernel) rfl) [.int (xs (x3 + 1).toNatClampNeg), .int (xs (x3 + 2).toNatClampNeg), .int (xs (x3 + 3).toNatClampNeg)] (c_X11_drawn (z := z) hIx e1 H.size) (by decide) rfl rfl (Nat.le_of_ble_eq_true rfl) dL_law_909 (fun H locs hP hS => ?_)
  refine lv_aload_n hx hb dL_law_912 rfl (lv_at hl 2 rfl) ?_
  refine lw_ld hx hb hX hbl hbA hS hl rfl rfl (1 : Int32) (by decide) (hj _ (by decide)) dL_law_913 dL_law_914 dL_law_915 dL_law_916 dL_law_917 ?_
  refine lw_ld hx hb hX hbl hbA hS hl rfl rfl (2 : Int32) (by decide) (hj _ (by decide)) dL_law_918 dL_law_919 dL_law_920 dL_law_921 dL_law_922 ?_
  refine lw_ld hx hb hX hbl hbA hS hl rfl rfl (3 : Int32) (by decide) (hj _ (by decide)) dL_law_923 dL_law_924 dL_law_925 dL_law_926 dL_law_927 ?_
  refine lm_i B hP hS (rest := [.int v]) (n := 3) ⟨xw_mem 1613 (by decide +kernel) rfl, xw_mem 110 (by decide +kernel) rfl, xw_mem 1610 (by decide +kernel) rfl, by decide +kernel⟩ (xw_mem 1611 (by decide +kernel) rfl) (xw_mem 1612 (by decide +kernel) rfl) [.int (xs (x3 + 1).toNatClampNeg), .int (xs (x3 + 2).toNatClampNeg), .int (xs (x3 + 3).toNatClampNeg)] (c_X12_drawn (z := z) hIm e2 H.size) (by decide) rfl rfl (Nat.le_of_ble_eq_true rfl) dL_law_928 (fun H locs hP hS => ?_)
  refine lv_icmp_eq (tgt := 1484) hx hb dL_law_931 (by decide) (fun _ => ?_) (fun cq => absurd rfl cq)
  exact kk _ _ _ _ hR' hP hS
theorem dL_law_936 : decode cL_law 936 = .ok (.aload_n 1, 1) := by decide +kernel
theorem dL_law_937 : decode cL_law 937 = .ok (.aload_n 0, 1) := by decide +kernel
theorem dL_law_938 : decode cL_law 938 = .ok (.iload_n 3, 1) := by decide +kernel
theorem dL_law_939 : decode cL_law 939 = .ok (.iconst 1, 1) := by decide +kernel
theorem dL_law_940 : decode cL_law 940 = .ok (.iadd, 1) := by decide +kernel
theorem dL_law_941 : decode cL_law 941 = .ok (.iaload, 1) := by decide +kernel
theorem dL_law_942 : decode cL_law 942 = .ok (.invokevirtual 110, 3) := by decide +kernel
theorem dL_law_945 : decode cL_law 945 = .ok (.aload_n 2, 1) := by decide +kernel
theorem dL_law_946 : decode cL_law 946 = .ok (.aload_n 0, 1) := by decide +kernel
theorem dL_law_947 : decode cL_law 947 = .ok (.iload_n 3, 1) := by decide +kernel
theorem dL_law_948 : decode cL_law 948 = .ok (.iconst 1, 1) := by decide +kernel
theorem dL_law_949 : decode cL_law 949 = .ok (.iadd, 1) := by decide +kernel
theorem dL_law_950 : decode cL_law 950 = .ok (.iaload, 1) := by decide +kernel
theorem dL_law_951 : decode cL_law 951 = .ok (.invokevirtual 113, 3) := by decide +kernel
theorem dL_law_954 : decode cL_law 954 = .ok (.if_icmp .eq 530, 3) := by decide +kernel
set_option maxHeartbeats 4000000 in
set_option maxRecDepth 100000 in
/-- turned -/
theorem lc_23 {p : Program} {l : Launch} {e : Env} {s : State} {m : MethodId} {below : List Frame} {meth : Method} {c : Code} {b L : Nat} {xs : Nat → Int32} {D : va_G} {cy : Nat → ClassId} {z a a' : Nat → Nat} {ls : Array Slot} {x3 : Int32} {Q : State → Prop} (B : lwB p s m meth c b L xs D cy z a a' ls x3) (kk : lwC p l e s m below meth c b D cy a a' ls Q 1484) : lwC p l e s m below meth c b D cy a a' ls Q 936 := by
  intro SX SM H locs hRR hP hS
  obtain ⟨η, gn, hR⟩ := hRR
  obtain ⟨⟨hx, hb, hr, hml, hown, hts, hX, hbl, hlocks, hgv⟩, hK, hIx, hIm, hEx, hDD, hl, hj⟩ := id B
  have hts' : ∀ w ∈ xTB, w.before #[Value.ref b] s = true := fun w hw => hts w (List.mem_filter.mp hw).1
  have hbA : ¬ (fun q : Nat => s.heap.size ≤ q) b := Nat.not_le.mpr hbl
  refine lv_aload_n hx hb dL_law_936 rfl (lv_at hl 1 rfl) ?_
  refine lw_ld hx hb hX hbl hbA hS hl rfl rfl (1 : Int32) (by decide) (hj _ (by decide)) dL_law_937 dL_law_938 dL_law_939 dL_law_940 dL_law_941 ?_
  obtain ⟨v, SX', SM', e1, e2, hR'⟩ := q_turned hR (xs (x3 + 1).toNatClampNeg)
  refine lx_i B hP hS (rest := []) (n := 1) ⟨xw_mem 930 (by decide +kernel) rfl, xw_mem 98 (by decide +kernel) rfl, xw_mem 927 (by decide +kernel) rfl, by decide +kernel⟩ (xw_mem 928 (by decide +kernel) rfl) (xw_mem 929 (by decide +kernel) rfl) [.int (xs (x3 + 1).toNatClampNeg)] (c_X11_turned (z := z) hIx e1 H.size) (by decide) rfl rfl (Nat.le_of_ble_eq_true rfl) dL_law_942 (fun H locs hP hS => ?_)
  refine lv_aload_n hx hb dL_law_945 rfl (lv_at hl 2 rfl) ?_
  refine lw_ld hx hb hX hbl hbA hS hl rfl rfl (1 : Int32) (by decide) (hj _ (by decide)) dL_law_946 dL_law_947 dL_law_948 dL_law_949 dL_law_950 ?_
  refine lm_i B hP hS (rest := [.int v]) (n := 1) ⟨xw_mem 1618 (by decide +kernel) rfl, xw_mem 110 (by decide +kernel) rfl, xw_mem 1615 (by decide +kernel) rfl, by decide +kernel⟩ (xw_mem 1616 (by decide +kernel) rfl) (xw_mem 1617 (by decide +kernel) rfl) [.int (xs (x3 + 1).toNatClampNeg)] (c_X12_turned (z := z) hIm e2 H.size) (by decide) rfl rfl (Nat.le_of_ble_eq_true rfl) dL_law_951 (fun H locs hP hS => ?_)
  refine lv_icmp_eq (tgt := 1484) hx hb dL_law_954 (by decide) (fun _ => ?_) (fun cq => absurd rfl cq)
  exact kk _ _ _ _ hR' hP hS
