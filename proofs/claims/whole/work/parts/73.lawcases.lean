def Op16 (Rel : StC → StM → Prop) : Prop := ∀ (S : StC) (T : StM) (a1 : Int32) (a2 : Int32), Rel S T → ∃ (r : Int32) (S' : StC) (T' : StM), m_CX_choose S a1 a2 = some (r, S') ∧ m_MX_choose T a1 a2 = some (r, T') ∧ Rel S' T'
set_option maxHeartbeats 4000000 in
set_option maxRecDepth 100000 in
theorem law_16 {Rel : StC → StM → Prop} (hop : Op16 Rel) {p : Program} {l : Launch} {e : Env} {s : State} {m : MethodId} {below : List Frame} {meth : Method} {c : Code} {D : va_G} {adC adM : Nat → Nat} {caC caM : Nat → ClassId} {b L : Nat} {xs : Nat → Int32} {x3 : Int32} {S : StC} {T : StM} (g : CallFix p m c code 4 s #[Value.ref b] tb RL) (hKC : va_K D vwCl (tyC caC) s) (hKM : va_K D vwCl (tyM caM) s) (hX : va_X b L xs s s.heap) (hbl : b < s.heap.size) (h1 : inb (x3 + 1) L = true) (h2 : inb (x3 + 2) L = true) (h3 : inb (x3 + 3) L = true) (h4 : inb (x3 + 4) L = true) (hRel : Rel S T) (cont : ∀ S T, Rel S T → Vj p l e room_1 s m #[Value.ref b] below meth c (lw_Z below #[Value.ref b] s) D vwCl (fun q : Nat => s.heap.size ≤ q) 4 65 8649 (wdC adC caC S ++ wdM adM caM T) 918 [(0, .ref b), (1, .ref (adC 0)), (2, .ref (adM 0)), (3, .int x3)] []) : Vj p l e room_1 s m #[Value.ref b] below meth c (lw_Z below #[Value.ref b] s) D vwCl (fun q : Nat => s.heap.size ≤ q) 4 65 8649 (wdC adC caC S ++ wdM adM caM T) 664 [(0, .ref b), (1, .ref (adC 0)), (2, .ref (adM 0)), (3, .int x3)] [] := by
  refine v_aload_n g dk_L_law_664 1 rfl rfl (pc' := 665) rfl ?_
  refine v_aload_n g dk_L_law_665 0 rfl rfl (pc' := 666) rfl ?_
  refine v_iload_n g dk_L_law_666 3 rfl rfl (pc' := 667) rfl ?_
  refine v_iconst (v := 1) g dk_L_law_667 (by decide) (pc' := 668) rfl ?_
  refine v_iadd g dk_L_law_668 (pc' := 669) rfl ?_
  refine v_sld g hX hbl (Nat.not_le.mpr hbl) h1 dk_L_law_669 (pc' := 670) rfl ?_
  refine v_aload_n g dk_L_law_670 0 rfl rfl (pc' := 671) rfl ?_
  refine v_iload_n g dk_L_law_671 3 rfl rfl (pc' := 672) rfl ?_
  refine v_iconst (v := 2) g dk_L_law_672 (by decide) (pc' := 673) rfl ?_
  refine v_iadd g dk_L_law_673 (pc' := 674) rfl ?_
  refine v_sld g hX hbl (Nat.not_le.mpr hbl) h2 dk_L_law_674 (pc' := 675) rfl ?_
  obtain ⟨r, S', T', hC, hM, hR⟩ := hop S T (xs (x3 + 1).toNatClampNeg) (xs (x3 + 2).toNatClampNeg) hRel
  refine v_lawC (As := [.int (xs (x3 + 1).toNatClampNeg), .int (xs (x3 + 2).toNatClampNeg)]) (rest := []) (S1 := S') (r := r) g hKC (fun _ h => h) (c_CX_choose hC) (kcL_85 g.2.2.2.2 rfl rfl (Nat.le_of_ble_eq_true rfl) (Nat.le_of_ble_eq_true rfl)) rfl rfl (Nat.le_of_ble_eq_true rfl) dk_L_law_675 (pc' := 678) rfl ?_
  refine v_aload_n g dk_L_law_678 2 rfl rfl (pc' := 679) rfl ?_
  refine v_aload_n g dk_L_law_679 0 rfl rfl (pc' := 680) rfl ?_
  refine v_iload_n g dk_L_law_680 3 rfl rfl (pc' := 681) rfl ?_
  refine v_iconst (v := 1) g dk_L_law_681 (by decide) (pc' := 682) rfl ?_
  refine v_iadd g dk_L_law_682 (pc' := 683) rfl ?_
  refine v_sld g hX hbl (Nat.not_le.mpr hbl) h1 dk_L_law_683 (pc' := 684) rfl ?_
  refine v_aload_n g dk_L_law_684 0 rfl rfl (pc' := 685) rfl ?_
  refine v_iload_n g dk_L_law_685 3 rfl rfl (pc' := 686) rfl ?_
  refine v_iconst (v := 2) g dk_L_law_686 (by decide) (pc' := 687) rfl ?_
  refine v_iadd g dk_L_law_687 (pc' := 688) rfl ?_
  refine v_sld g hX hbl (Nat.not_le.mpr hbl) h2 dk_L_law_688 (pc' := 689) rfl ?_
  refine v_lawM (As := [.int (xs (x3 + 1).toNatClampNeg), .int (xs (x3 + 2).toNatClampNeg)]) (rest := [.int r]) (T1 := T') (r := r) g hKM (fun _ h => h) (c_MX_choose hM) (kcL_88 g.2.2.2.2 rfl rfl (Nat.le_of_ble_eq_true rfl) (Nat.le_of_ble_eq_true rfl)) rfl rfl (Nat.le_of_ble_eq_true rfl) dk_L_law_689 (pc' := 692) rfl ?_
  refine v_icmp_eq (tgt := 918) (pc' := 695) g dk_L_law_692 (by decide) rfl (fun _ => ?_) (fun hne => absurd rfl hne)
  exact cont _ _ hR
def Op17 (Rel : StC → StM → Prop) : Prop := ∀ (S : StC) (T : StM) (a1 : Int32), Rel S T → ∃ (r : Int32), m_CX_chosen S a1 = some r ∧ m_MX_chosen T a1 = some r ∧ Rel S T
set_option maxHeartbeats 4000000 in
set_option maxRecDepth 100000 in
theorem law_17 {Rel : StC → StM → Prop} (hop : Op17 Rel) {p : Program} {l : Launch} {e : Env} {s : State} {m : MethodId} {below : List Frame} {meth : Method} {c : Code} {D : va_G} {adC adM : Nat → Nat} {caC caM : Nat → ClassId} {b L : Nat} {xs : Nat → Int32} {x3 : Int32} {S : StC} {T : StM} (g : CallFix p m c code 4 s #[Value.ref b] tb RL) (hKC : va_K D vwCl (tyC caC) s) (hKM : va_K D vwCl (tyM caM) s) (hX : va_X b L xs s s.heap) (hbl : b < s.heap.size) (h1 : inb (x3 + 1) L = true) (h2 : inb (x3 + 2) L = true) (h3 : inb (x3 + 3) L = true) (h4 : inb (x3 + 4) L = true) (hRel : Rel S T) (cont : ∀ S T, Rel S T → Vj p l e room_1 s m #[Value.ref b] below meth c (lw_Z below #[Value.ref b] s) D vwCl (fun q : Nat => s.heap.size ≤ q) 4 65 8649 (wdC adC caC S ++ wdM adM caM T) 918 [(0, .ref b), (1, .ref (adC 0)), (2, .ref (adM 0)), (3, .int x3)] []) : Vj p l e room_1 s m #[Value.ref b] below meth c (lw_Z below #[Value.ref b] s) D vwCl (fun q : Nat => s.heap.size ≤ q) 4 65 8649 (wdC adC caC S ++ wdM adM caM T) 697 [(0, .ref b), (1, .ref (adC 0)), (2, .ref (adM 0)), (3, .int x3)] [] := by
  refine v_aload_n g dk_L_law_697 1 rfl rfl (pc' := 698) rfl ?_
  refine v_aload_n g dk_L_law_698 0 rfl rfl (pc' := 699) rfl ?_
  refine v_iload_n g dk_L_law_699 3 rfl rfl (pc' := 700) rfl ?_
  refine v_iconst (v := 1) g dk_L_law_700 (by decide) (pc' := 701) rfl ?_
  refine v_iadd g dk_L_law_701 (pc' := 702) rfl ?_
  refine v_sld g hX hbl (Nat.not_le.mpr hbl) h1 dk_L_law_702 (pc' := 703) rfl ?_
  obtain ⟨r, hC, hM, hR⟩ := hop S T (xs (x3 + 1).toNatClampNeg) hRel
  refine v_lawC (As := [.int (xs (x3 + 1).toNatClampNeg)]) (rest := []) (S1 := S) (r := r) g hKC (fun _ h => h) (c_CX_chosen hC) (kcL_89 g.2.2.2.2 rfl rfl (Nat.le_of_ble_eq_true rfl) (Nat.le_of_ble_eq_true rfl)) rfl rfl (Nat.le_of_ble_eq_true rfl) dk_L_law_703 (pc' := 706) rfl ?_
  refine v_aload_n g dk_L_law_706 2 rfl rfl (pc' := 707) rfl ?_
  refine v_aload_n g dk_L_law_707 0 rfl rfl (pc' := 708) rfl ?_
  refine v_iload_n g dk_L_law_708 3 rfl rfl (pc' := 709) rfl ?_
  refine v_iconst (v := 1) g dk_L_law_709 (by decide) (pc' := 710) rfl ?_
  refine v_iadd g dk_L_law_710 (pc' := 711) rfl ?_
  refine v_sld g hX hbl (Nat.not_le.mpr hbl) h1 dk_L_law_711 (pc' := 712) rfl ?_
  refine v_lawM (As := [.int (xs (x3 + 1).toNatClampNeg)]) (rest := [.int r]) (T1 := T) (r := r) g hKM (fun _ h => h) (c_MX_chosen hM) (kcL_92 g.2.2.2.2 rfl rfl (Nat.le_of_ble_eq_true rfl) (Nat.le_of_ble_eq_true rfl)) rfl rfl (Nat.le_of_ble_eq_true rfl) dk_L_law_712 (pc' := 715) rfl ?_
  refine v_icmp_eq (tgt := 918) (pc' := 718) g dk_L_law_715 (by decide) rfl (fun _ => ?_) (fun hne => absurd rfl hne)
  exact cont _ _ hR
def Op18 (Rel : StC → StM → Prop) : Prop := ∀ (S : StC) (T : StM) (a1 : Int32) (a2 : Int32), Rel S T → ∃ (r : Int32) (S' : StC) (T' : StM), m_CX_need S a1 a2 = some (r, S') ∧ m_MX_need T a1 a2 = some (r, T') ∧ Rel S' T'
set_option maxHeartbeats 4000000 in
set_option maxRecDepth 100000 in
theorem law_18 {Rel : StC → StM → Prop} (hop : Op18 Rel) {p : Program} {l : Launch} {e : Env} {s : State} {m : MethodId} {below : List Frame} {meth : Method} {c : Code} {D : va_G} {adC adM : Nat → Nat} {caC caM : Nat → ClassId} {b L : Nat} {xs : Nat → Int32} {x3 : Int32} {S : StC} {T : StM} (g : CallFix p m c code 4 s #[Value.ref b] tb RL) (hKC : va_K D vwCl (tyC caC) s) (hKM : va_K D vwCl (tyM caM) s) (hX : va_X b L xs s s.heap) (hbl : b < s.heap.size) (h1 : inb (x3 + 1) L = true) (h2 : inb (x3 + 2) L = true) (h3 : inb (x3 + 3) L = true) (h4 : inb (x3 + 4) L = true) (hRel : Rel S T) (cont : ∀ S T, Rel S T → Vj p l e room_1 s m #[Value.ref b] below meth c (lw_Z below #[Value.ref b] s) D vwCl (fun q : Nat => s.heap.size ≤ q) 4 65 8649 (wdC adC caC S ++ wdM adM caM T) 918 [(0, .ref b), (1, .ref (adC 0)), (2, .ref (adM 0)), (3, .int x3)] []) : Vj p l e room_1 s m #[Value.ref b] below meth c (lw_Z below #[Value.ref b] s) D vwCl (fun q : Nat => s.heap.size ≤ q) 4 65 8649 (wdC adC caC S ++ wdM adM caM T) 720 [(0, .ref b), (1, .ref (adC 0)), (2, .ref (adM 0)), (3, .int x3)] [] := by
  refine v_aload_n g dk_L_law_720 1 rfl rfl (pc' := 721) rfl ?_
  refine v_aload_n g dk_L_law_721 0 rfl rfl (pc' := 722) rfl ?_
  refine v_iload_n g dk_L_law_722 3 rfl rfl (pc' := 723) rfl ?_
  refine v_iconst (v := 1) g dk_L_law_723 (by decide) (pc' := 724) rfl ?_
  refine v_iadd g dk_L_law_724 (pc' := 725) rfl ?_
  refine v_sld g hX hbl (Nat.not_le.mpr hbl) h1 dk_L_law_725 (pc' := 726) rfl ?_
  refine v_aload_n g dk_L_law_726 0 rfl rfl (pc' := 727) rfl ?_
  refine v_iload_n g dk_L_law_727 3 rfl rfl (pc' := 728) rfl ?_
  refine v_iconst (v := 2) g dk_L_law_728 (by decide) (pc' := 729) rfl ?_
  refine v_iadd g dk_L_law_729 (pc' := 730) rfl ?_
  refine v_sld g hX hbl (Nat.not_le.mpr hbl) h2 dk_L_law_730 (pc' := 731) rfl ?_
  obtain ⟨r, S', T', hC, hM, hR⟩ := hop S T (xs (x3 + 1).toNatClampNeg) (xs (x3 + 2).toNatClampNeg) hRel
  refine v_lawC (As := [.int (xs (x3 + 1).toNatClampNeg), .int (xs (x3 + 2).toNatClampNeg)]) (rest := []) (S1 := S') (r := r) g hKC (fun _ h => h) (c_CX_need hC) (kcL_93 g.2.2.2.2 rfl rfl (Nat.le_of_ble_eq_true rfl) (Nat.le_of_ble_eq_true rfl)) rfl rfl (Nat.le_of_ble_eq_true rfl) dk_L_law_731 (pc' := 734) rfl ?_
  refine v_aload_n g dk_L_law_734 2 rfl rfl (pc' := 735) rfl ?_
  refine v_aload_n g dk_L_law_735 0 rfl rfl (pc' := 736) rfl ?_
  refine v_iload_n g dk_L_law_736 3 rfl rfl (pc' := 737) rfl ?_
  refine v_iconst (v := 1) g dk_L_law_737 (by decide) (pc' := 738) rfl ?_
  refine v_iadd g dk_L_law_738 (pc' := 739) rfl ?_
  refine v_sld g hX hbl (Nat.not_le.mpr hbl) h1 dk_L_law_739 (pc' := 740) rfl ?_
  refine v_aload_n g dk_L_law_740 0 rfl rfl (pc' := 741) rfl ?_
  refine v_iload_n g dk_L_law_741 3 rfl rfl (pc' := 742) rfl ?_
  refine v_iconst (v := 2) g dk_L_law_742 (by decide) (pc' := 743) rfl ?_
  refine v_iadd g dk_L_law_743 (pc' := 744) rfl ?_
  refine v_sld g hX hbl (Nat.not_le.mpr hbl) h2 dk_L_law_744 (pc' := 745) rfl ?_
  refine v_lawM (As := [.int (xs (x3 + 1).toNatClampNeg), .int (xs (x3 + 2).toNatClampNeg)]) (rest := [.int r]) (T1 := T') (r := r) g hKM (fun _ h => h) (c_MX_need hM) (kcL_96 g.2.2.2.2 rfl rfl (Nat.le_of_ble_eq_true rfl) (Nat.le_of_ble_eq_true rfl)) rfl rfl (Nat.le_of_ble_eq_true rfl) dk_L_law_745 (pc' := 748) rfl ?_
  refine v_icmp_eq (tgt := 918) (pc' := 751) g dk_L_law_748 (by decide) rfl (fun _ => ?_) (fun hne => absurd rfl hne)
  exact cont _ _ hR
def Op19 (Rel : StC → StM → Prop) : Prop := ∀ (S : StC) (T : StM) (a1 : Int32) (a2 : Int32) (a3 : Int32), Rel S T → ∃ (r : Int32) (S' : StC) (T' : StM), m_CX_change S a1 a2 a3 = some (r, S') ∧ m_MX_change T a1 a2 a3 = some (r, T') ∧ Rel S' T'
set_option maxHeartbeats 4000000 in
set_option maxRecDepth 100000 in
theorem law_19 {Rel : StC → StM → Prop} (hop : Op19 Rel) {p : Program} {l : Launch} {e : Env} {s : State} {m : MethodId} {below : List Frame} {meth : Method} {c : Code} {D : va_G} {adC adM : Nat → Nat} {caC caM : Nat → ClassId} {b L : Nat} {xs : Nat → Int32} {x3 : Int32} {S : StC} {T : StM} (g : CallFix p m c code 4 s #[Value.ref b] tb RL) (hKC : va_K D vwCl (tyC caC) s) (hKM : va_K D vwCl (tyM caM) s) (hX : va_X b L xs s s.heap) (hbl : b < s.heap.size) (h1 : inb (x3 + 1) L = true) (h2 : inb (x3 + 2) L = true) (h3 : inb (x3 + 3) L = true) (h4 : inb (x3 + 4) L = true) (hRel : Rel S T) (cont : ∀ S T, Rel S T → Vj p l e room_1 s m #[Value.ref b] below meth c (lw_Z below #[Value.ref b] s) D vwCl (fun q : Nat => s.heap.size ≤ q) 4 65 8649 (wdC adC caC S ++ wdM adM caM T) 918 [(0, .ref b), (1, .ref (adC 0)), (2, .ref (adM 0)), (3, .int x3)] []) : Vj p l e room_1 s m #[Value.ref b] below meth c (lw_Z below #[Value.ref b] s) D vwCl (fun q : Nat => s.heap.size ≤ q) 4 65 8649 (wdC adC caC S ++ wdM adM caM T) 753 [(0, .ref b), (1, .ref (adC 0)), (2, .ref (adM 0)), (3, .int x3)] [] := by
  refine v_aload_n g dk_L_law_753 1 rfl rfl (pc' := 754) rfl ?_
  refine v_aload_n g dk_L_law_754 0 rfl rfl (pc' := 755) rfl ?_
  refine v_iload_n g dk_L_law_755 3 rfl rfl (pc' := 756) rfl ?_
  refine v_iconst (v := 1) g dk_L_law_756 (by decide) (pc' := 757) rfl ?_
  refine v_iadd g dk_L_law_757 (pc' := 758) rfl ?_
  refine v_sld g hX hbl (Nat.not_le.mpr hbl) h1 dk_L_law_758 (pc' := 759) rfl ?_
  refine v_aload_n g dk_L_law_759 0 rfl rfl (pc' := 760) rfl ?_
  refine v_iload_n g dk_L_law_760 3 rfl rfl (pc' := 761) rfl ?_
  refine v_iconst (v := 2) g dk_L_law_761 (by decide) (pc' := 762) rfl ?_
  refine v_iadd g dk_L_law_762 (pc' := 763) rfl ?_
  refine v_sld g hX hbl (Nat.not_le.mpr hbl) h2 dk_L_law_763 (pc' := 764) rfl ?_
  refine v_aload_n g dk_L_law_764 0 rfl rfl (pc' := 765) rfl ?_
  refine v_iload_n g dk_L_law_765 3 rfl rfl (pc' := 766) rfl ?_
  refine v_iconst (v := 3) g dk_L_law_766 (by decide) (pc' := 767) rfl ?_
  refine v_iadd g dk_L_law_767 (pc' := 768) rfl ?_
  refine v_sld g hX hbl (Nat.not_le.mpr hbl) h3 dk_L_law_768 (pc' := 769) rfl ?_
  obtain ⟨r, S', T', hC, hM, hR⟩ := hop S T (xs (x3 + 1).toNatClampNeg) (xs (x3 + 2).toNatClampNeg) (xs (x3 + 3).toNatClampNeg) hRel
  refine v_lawC (As := [.int (xs (x3 + 1).toNatClampNeg), .int (xs (x3 + 2).toNatClampNeg), .int (xs (x3 + 3).toNatClampNeg)]) (rest := []) (S1 := S') (r := r) g hKC (fun _ h => h) (c_CX_change hC) (kcL_97 g.2.2.2.2 rfl rfl (Nat.le_of_ble_eq_true rfl) (Nat.le_of_ble_eq_true rfl)) rfl rfl (Nat.le_of_ble_eq_true rfl) dk_L_law_769 (pc' := 772) rfl ?_
  refine v_aload_n g dk_L_law_772 2 rfl rfl (pc' := 773) rfl ?_
  refine v_aload_n g dk_L_law_773 0 rfl rfl (pc' := 774) rfl ?_
  refine v_iload_n g dk_L_law_774 3 rfl rfl (pc' := 775) rfl ?_
  refine v_iconst (v := 1) g dk_L_law_775 (by decide) (pc' := 776) rfl ?_
  refine v_iadd g dk_L_law_776 (pc' := 777) rfl ?_
  refine v_sld g hX hbl (Nat.not_le.mpr hbl) h1 dk_L_law_777 (pc' := 778) rfl ?_
  refine v_aload_n g dk_L_law_778 0 rfl rfl (pc' := 779) rfl ?_
  refine v_iload_n g dk_L_law_779 3 rfl rfl (pc' := 780) rfl ?_
  refine v_iconst (v := 2) g dk_L_law_780 (by decide) (pc' := 781) rfl ?_
  refine v_iadd g dk_L_law_781 (pc' := 782) rfl ?_
  refine v_sld g hX hbl (Nat.not_le.mpr hbl) h2 dk_L_law_782 (pc' := 783) rfl ?_
  refine v_aload_n g dk_L_law_783 0 rfl rfl (pc' := 784) rfl ?_
  refine v_iload_n g dk_L_law_784 3 rfl rfl (pc' := 785) rfl ?_
  refine v_iconst (v := 3) g dk_L_law_785 (by decide) (pc' := 786) rfl ?_
  refine v_iadd g dk_L_law_786 (pc' := 787) rfl ?_
  refine v_sld g hX hbl (Nat.not_le.mpr hbl) h3 dk_L_law_787 (pc' := 788) rfl ?_
  refine v_lawM (As := [.int (xs (x3 + 1).toNatClampNeg), .int (xs (x3 + 2).toNatClampNeg), .int (xs (x3 + 3).toNatClampNeg)]) (rest := [.int r]) (T1 := T') (r := r) g hKM (fun _ h => h) (c_MX_change hM) (kcL_100 g.2.2.2.2 rfl rfl (Nat.le_of_ble_eq_true rfl) (Nat.le_of_ble_eq_true rfl)) rfl rfl (Nat.le_of_ble_eq_true rfl) dk_L_law_788 (pc' := 791) rfl ?_
  refine v_icmp_eq (tgt := 918) (pc' := 794) g dk_L_law_791 (by decide) rfl (fun _ => ?_) (fun hne => absurd rfl hne)
  exact cont _ _ hR
def Op20 (Rel : StC → StM → Prop) : Prop := ∀ (S : StC) (T : StM) (a1 : Int32), Rel S T → ∃ (r : Int32) (S' : StC), m_CX_reads S a1 = some (r, S') ∧ m_MX_reads T a1 = some r ∧ Rel S' T
set_option maxHeartbeats 4000000 in
set_option maxRecDepth 100000 in
theorem law_20 {Rel : StC → StM → Prop} (hop : Op20 Rel) {p : Program} {l : Launch} {e : Env} {s : State} {m : MethodId} {below : List Frame} {meth : Method} {c : Code} {D : va_G} {adC adM : Nat → Nat} {caC caM : Nat → ClassId} {b L : Nat} {xs : Nat → Int32} {x3 : Int32} {S : StC} {T : StM} (g : CallFix p m c code 4 s #[Value.ref b] tb RL) (hKC : va_K D vwCl (tyC caC) s) (hKM : va_K D vwCl (tyM caM) s) (hX : va_X b L xs s s.heap) (hbl : b < s.heap.size) (h1 : inb (x3 + 1) L = true) (h2 : inb (x3 + 2) L = true) (h3 : inb (x3 + 3) L = true) (h4 : inb (x3 + 4) L = true) (hRel : Rel S T) (cont : ∀ S T, Rel S T → Vj p l e room_1 s m #[Value.ref b] below meth c (lw_Z below #[Value.ref b] s) D vwCl (fun q : Nat => s.heap.size ≤ q) 4 65 8649 (wdC adC caC S ++ wdM adM caM T) 918 [(0, .ref b), (1, .ref (adC 0)), (2, .ref (adM 0)), (3, .int x3)] []) : Vj p l e room_1 s m #[Value.ref b] below meth c (lw_Z below #[Value.ref b] s) D vwCl (fun q : Nat => s.heap.size ≤ q) 4 65 8649 (wdC adC caC S ++ wdM adM caM T) 796 [(0, .ref b), (1, .ref (adC 0)), (2, .ref (adM 0)), (3, .int x3)] [] := by
  refine v_aload_n g dk_L_law_796 1 rfl rfl (pc' := 797) rfl ?_
  refine v_aload_n g dk_L_law_797 0 rfl rfl (pc' := 798) rfl ?_
  refine v_iload_n g dk_L_law_798 3 rfl rfl (pc' := 799) rfl ?_
  refine v_iconst (v := 1) g dk_L_law_799 (by decide) (pc' := 800) rfl ?_
  refine v_iadd g dk_L_law_800 (pc' := 801) rfl ?_
  refine v_sld g hX hbl (Nat.not_le.mpr hbl) h1 dk_L_law_801 (pc' := 802) rfl ?_
  obtain ⟨r, S', hC, hM, hR⟩ := hop S T (xs (x3 + 1).toNatClampNeg) hRel
  refine v_lawC (As := [.int (xs (x3 + 1).toNatClampNeg)]) (rest := []) (S1 := S') (r := r) g hKC (fun _ h => h) (c_CX_reads hC) (kcL_101 g.2.2.2.2 rfl rfl (Nat.le_of_ble_eq_true rfl) (Nat.le_of_ble_eq_true rfl)) rfl rfl (Nat.le_of_ble_eq_true rfl) dk_L_law_802 (pc' := 805) rfl ?_
  refine v_aload_n g dk_L_law_805 2 rfl rfl (pc' := 806) rfl ?_
  refine v_aload_n g dk_L_law_806 0 rfl rfl (pc' := 807) rfl ?_
  refine v_iload_n g dk_L_law_807 3 rfl rfl (pc' := 808) rfl ?_
  refine v_iconst (v := 1) g dk_L_law_808 (by decide) (pc' := 809) rfl ?_
  refine v_iadd g dk_L_law_809 (pc' := 810) rfl ?_
  refine v_sld g hX hbl (Nat.not_le.mpr hbl) h1 dk_L_law_810 (pc' := 811) rfl ?_
  refine v_lawM (As := [.int (xs (x3 + 1).toNatClampNeg)]) (rest := [.int r]) (T1 := T) (r := r) g hKM (fun _ h => h) (c_MX_reads hM) (kcL_104 g.2.2.2.2 rfl rfl (Nat.le_of_ble_eq_true rfl) (Nat.le_of_ble_eq_true rfl)) rfl rfl (Nat.le_of_ble_eq_true rfl) dk_L_law_811 (pc' := 814) rfl ?_
  refine v_icmp_eq (tgt := 918) (pc' := 817) g dk_L_law_814 (by decide) rfl (fun _ => ?_) (fun hne => absurd rfl hne)
  exact cont _ _ hR
def Op21 (Rel : StC → StM → Prop) : Prop := ∀ (S : StC) (T : StM) (a1 : Int32) (a2 : Int32), Rel S T → ∃ (r : Int32) (S' : StC) (T' : StM), m_CX_trim S a1 a2 = some (r, S') ∧ m_MX_trim T a1 a2 = some (r, T') ∧ Rel S' T'
set_option maxHeartbeats 4000000 in
set_option maxRecDepth 100000 in
theorem law_21 {Rel : StC → StM → Prop} (hop : Op21 Rel) {p : Program} {l : Launch} {e : Env} {s : State} {m : MethodId} {below : List Frame} {meth : Method} {c : Code} {D : va_G} {adC adM : Nat → Nat} {caC caM : Nat → ClassId} {b L : Nat} {xs : Nat → Int32} {x3 : Int32} {S : StC} {T : StM} (g : CallFix p m c code 4 s #[Value.ref b] tb RL) (hKC : va_K D vwCl (tyC caC) s) (hKM : va_K D vwCl (tyM caM) s) (hX : va_X b L xs s s.heap) (hbl : b < s.heap.size) (h1 : inb (x3 + 1) L = true) (h2 : inb (x3 + 2) L = true) (h3 : inb (x3 + 3) L = true) (h4 : inb (x3 + 4) L = true) (hRel : Rel S T) (cont : ∀ S T, Rel S T → Vj p l e room_1 s m #[Value.ref b] below meth c (lw_Z below #[Value.ref b] s) D vwCl (fun q : Nat => s.heap.size ≤ q) 4 65 8649 (wdC adC caC S ++ wdM adM caM T) 918 [(0, .ref b), (1, .ref (adC 0)), (2, .ref (adM 0)), (3, .int x3)] []) : Vj p l e room_1 s m #[Value.ref b] below meth c (lw_Z below #[Value.ref b] s) D vwCl (fun q : Nat => s.heap.size ≤ q) 4 65 8649 (wdC adC caC S ++ wdM adM caM T) 819 [(0, .ref b), (1, .ref (adC 0)), (2, .ref (adM 0)), (3, .int x3)] [] := by
  refine v_aload_n g dk_L_law_819 1 rfl rfl (pc' := 820) rfl ?_
  refine v_aload_n g dk_L_law_820 0 rfl rfl (pc' := 821) rfl ?_
  refine v_iload_n g dk_L_law_821 3 rfl rfl (pc' := 822) rfl ?_
  refine v_iconst (v := 1) g dk_L_law_822 (by decide) (pc' := 823) rfl ?_
  refine v_iadd g dk_L_law_823 (pc' := 824) rfl ?_
  refine v_sld g hX hbl (Nat.not_le.mpr hbl) h1 dk_L_law_824 (pc' := 825) rfl ?_
  refine v_aload_n g dk_L_law_825 0 rfl rfl (pc' := 826) rfl ?_
  refine v_iload_n g dk_L_law_826 3 rfl rfl (pc' := 827) rfl ?_
  refine v_iconst (v := 2) g dk_L_law_827 (by decide) (pc' := 828) rfl ?_
  refine v_iadd g dk_L_law_828 (pc' := 829) rfl ?_
  refine v_sld g hX hbl (Nat.not_le.mpr hbl) h2 dk_L_law_829 (pc' := 830) rfl ?_
  obtain ⟨r, S', T', hC, hM, hR⟩ := hop S T (xs (x3 + 1).toNatClampNeg) (xs (x3 + 2).toNatClampNeg) hRel
  refine v_lawC (As := [.int (xs (x3 + 1).toNatClampNeg), .int (xs (x3 + 2).toNatClampNeg)]) (rest := []) (S1 := S') (r := r) g hKC (fun _ h => h) (c_CX_trim hC) (kcL_105 g.2.2.2.2 rfl rfl (Nat.le_of_ble_eq_true rfl) (Nat.le_of_ble_eq_true rfl)) rfl rfl (Nat.le_of_ble_eq_true rfl) dk_L_law_830 (pc' := 833) rfl ?_
  refine v_aload_n g dk_L_law_833 2 rfl rfl (pc' := 834) rfl ?_
  refine v_aload_n g dk_L_law_834 0 rfl rfl (pc' := 835) rfl ?_
  refine v_iload_n g dk_L_law_835 3 rfl rfl (pc' := 836) rfl ?_
  refine v_iconst (v := 1) g dk_L_law_836 (by decide) (pc' := 837) rfl ?_
  refine v_iadd g dk_L_law_837 (pc' := 838) rfl ?_
  refine v_sld g hX hbl (Nat.not_le.mpr hbl) h1 dk_L_law_838 (pc' := 839) rfl ?_
  refine v_aload_n g dk_L_law_839 0 rfl rfl (pc' := 840) rfl ?_
  refine v_iload_n g dk_L_law_840 3 rfl rfl (pc' := 841) rfl ?_
  refine v_iconst (v := 2) g dk_L_law_841 (by decide) (pc' := 842) rfl ?_
  refine v_iadd g dk_L_law_842 (pc' := 843) rfl ?_
  refine v_sld g hX hbl (Nat.not_le.mpr hbl) h2 dk_L_law_843 (pc' := 844) rfl ?_
  refine v_lawM (As := [.int (xs (x3 + 1).toNatClampNeg), .int (xs (x3 + 2).toNatClampNeg)]) (rest := [.int r]) (T1 := T') (r := r) g hKM (fun _ h => h) (c_MX_trim hM) (kcL_108 g.2.2.2.2 rfl rfl (Nat.le_of_ble_eq_true rfl) (Nat.le_of_ble_eq_true rfl)) rfl rfl (Nat.le_of_ble_eq_true rfl) dk_L_law_844 (pc' := 847) rfl ?_
  refine v_icmp_eq (tgt := 918) (pc' := 850) g dk_L_law_847 (by decide) rfl (fun _ => ?_) (fun hne => absurd rfl hne)
  exact cont _ _ hR
def Op22 (Rel : StC → StM → Prop) : Prop := ∀ (S : StC) (T : StM) (a1 : Int32) (a2 : Int32), Rel S T → ∃ (r : Int32) (S' : StC) (T' : StM), m_CX_expand S a1 a2 = some (r, S') ∧ m_MX_expand T a1 a2 = some (r, T') ∧ Rel S' T'
set_option maxHeartbeats 4000000 in
set_option maxRecDepth 100000 in
theorem law_22 {Rel : StC → StM → Prop} (hop : Op22 Rel) {p : Program} {l : Launch} {e : Env} {s : State} {m : MethodId} {below : List Frame} {meth : Method} {c : Code} {D : va_G} {adC adM : Nat → Nat} {caC caM : Nat → ClassId} {b L : Nat} {xs : Nat → Int32} {x3 : Int32} {S : StC} {T : StM} (g : CallFix p m c code 4 s #[Value.ref b] tb RL) (hKC : va_K D vwCl (tyC caC) s) (hKM : va_K D vwCl (tyM caM) s) (hX : va_X b L xs s s.heap) (hbl : b < s.heap.size) (h1 : inb (x3 + 1) L = true) (h2 : inb (x3 + 2) L = true) (h3 : inb (x3 + 3) L = true) (h4 : inb (x3 + 4) L = true) (hRel : Rel S T) (cont : ∀ S T, Rel S T → Vj p l e room_1 s m #[Value.ref b] below meth c (lw_Z below #[Value.ref b] s) D vwCl (fun q : Nat => s.heap.size ≤ q) 4 65 8649 (wdC adC caC S ++ wdM adM caM T) 918 [(0, .ref b), (1, .ref (adC 0)), (2, .ref (adM 0)), (3, .int x3)] []) : Vj p l e room_1 s m #[Value.ref b] below meth c (lw_Z below #[Value.ref b] s) D vwCl (fun q : Nat => s.heap.size ≤ q) 4 65 8649 (wdC adC caC S ++ wdM adM caM T) 852 [(0, .ref b), (1, .ref (adC 0)), (2, .ref (adM 0)), (3, .int x3)] [] := by
  refine v_aload_n g dk_L_law_852 1 rfl rfl (pc' := 853) rfl ?_
  refine v_aload_n g dk_L_law_853 0 rfl rfl (pc' := 854) rfl ?_
  refine v_iload_n g dk_L_law_854 3 rfl rfl (pc' := 855) rfl ?_
  refine v_iconst (v := 1) g dk_L_law_855 (by decide) (pc' := 856) rfl ?_
  refine v_iadd g dk_L_law_856 (pc' := 857) rfl ?_
  refine v_sld g hX hbl (Nat.not_le.mpr hbl) h1 dk_L_law_857 (pc' := 858) rfl ?_
  refine v_aload_n g dk_L_law_858 0 rfl rfl (pc' := 859) rfl ?_
  refine v_iload_n g dk_L_law_859 3 rfl rfl (pc' := 860) rfl ?_
  refine v_iconst (v := 2) g dk_L_law_860 (by decide) (pc' := 861) rfl ?_
  refine v_iadd g dk_L_law_861 (pc' := 862) rfl ?_
  refine v_sld g hX hbl (Nat.not_le.mpr hbl) h2 dk_L_law_862 (pc' := 863) rfl ?_
  obtain ⟨r, S', T', hC, hM, hR⟩ := hop S T (xs (x3 + 1).toNatClampNeg) (xs (x3 + 2).toNatClampNeg) hRel
  refine v_lawC (As := [.int (xs (x3 + 1).toNatClampNeg), .int (xs (x3 + 2).toNatClampNeg)]) (rest := []) (S1 := S') (r := r) g hKC (fun _ h => h) (c_CX_expand hC) (kcL_109 g.2.2.2.2 rfl rfl (Nat.le_of_ble_eq_true rfl) (Nat.le_of_ble_eq_true rfl)) rfl rfl (Nat.le_of_ble_eq_true rfl) dk_L_law_863 (pc' := 866) rfl ?_
  refine v_aload_n g dk_L_law_866 2 rfl rfl (pc' := 867) rfl ?_
  refine v_aload_n g dk_L_law_867 0 rfl rfl (pc' := 868) rfl ?_
  refine v_iload_n g dk_L_law_868 3 rfl rfl (pc' := 869) rfl ?_
  refine v_iconst (v := 1) g dk_L_law_869 (by decide) (pc' := 870) rfl ?_
  refine v_iadd g dk_L_law_870 (pc' := 871) rfl ?_
  refine v_sld g hX hbl (Nat.not_le.mpr hbl) h1 dk_L_law_871 (pc' := 872) rfl ?_
  refine v_aload_n g dk_L_law_872 0 rfl rfl (pc' := 873) rfl ?_
  refine v_iload_n g dk_L_law_873 3 rfl rfl (pc' := 874) rfl ?_
  refine v_iconst (v := 2) g dk_L_law_874 (by decide) (pc' := 875) rfl ?_
  refine v_iadd g dk_L_law_875 (pc' := 876) rfl ?_
  refine v_sld g hX hbl (Nat.not_le.mpr hbl) h2 dk_L_law_876 (pc' := 877) rfl ?_
  refine v_lawM (As := [.int (xs (x3 + 1).toNatClampNeg), .int (xs (x3 + 2).toNatClampNeg)]) (rest := [.int r]) (T1 := T') (r := r) g hKM (fun _ h => h) (c_MX_expand hM) (kcL_112 g.2.2.2.2 rfl rfl (Nat.le_of_ble_eq_true rfl) (Nat.le_of_ble_eq_true rfl)) rfl rfl (Nat.le_of_ble_eq_true rfl) dk_L_law_877 (pc' := 880) rfl ?_
  refine v_icmp_eq (tgt := 918) (pc' := 883) g dk_L_law_880 (by decide) rfl (fun _ => ?_) (fun hne => absurd rfl hne)
  exact cont _ _ hR
def Op23 (Rel : StC → StM → Prop) : Prop := ∀ (S : StC) (T : StM) (a1 : Int32) (a2 : Int32), Rel S T → ∃ (r : Int32), m_CX_pair S a1 a2 = some r ∧ m_MX_pair T a1 a2 = some r ∧ Rel S T
set_option maxHeartbeats 4000000 in
set_option maxRecDepth 100000 in
theorem law_23 {Rel : StC → StM → Prop} (hop : Op23 Rel) {p : Program} {l : Launch} {e : Env} {s : State} {m : MethodId} {below : List Frame} {meth : Method} {c : Code} {D : va_G} {adC adM : Nat → Nat} {caC caM : Nat → ClassId} {b L : Nat} {xs : Nat → Int32} {x3 : Int32} {S : StC} {T : StM} (g : CallFix p m c code 4 s #[Value.ref b] tb RL) (hKC : va_K D vwCl (tyC caC) s) (hKM : va_K D vwCl (tyM caM) s) (hX : va_X b L xs s s.heap) (hbl : b < s.heap.size) (h1 : inb (x3 + 1) L = true) (h2 : inb (x3 + 2) L = true) (h3 : inb (x3 + 3) L = true) (h4 : inb (x3 + 4) L = true) (hRel : Rel S T) (cont : ∀ S T, Rel S T → Vj p l e room_1 s m #[Value.ref b] below meth c (lw_Z below #[Value.ref b] s) D vwCl (fun q : Nat => s.heap.size ≤ q) 4 65 8649 (wdC adC caC S ++ wdM adM caM T) 918 [(0, .ref b), (1, .ref (adC 0)), (2, .ref (adM 0)), (3, .int x3)] []) : Vj p l e room_1 s m #[Value.ref b] below meth c (lw_Z below #[Value.ref b] s) D vwCl (fun q : Nat => s.heap.size ≤ q) 4 65 8649 (wdC adC caC S ++ wdM adM caM T) 885 [(0, .ref b), (1, .ref (adC 0)), (2, .ref (adM 0)), (3, .int x3)] [] := by
  refine v_aload_n g dk_L_law_885 1 rfl rfl (pc' := 886) rfl ?_
  refine v_aload_n g dk_L_law_886 0 rfl rfl (pc' := 887) rfl ?_
  refine v_iload_n g dk_L_law_887 3 rfl rfl (pc' := 888) rfl ?_
  refine v_iconst (v := 1) g dk_L_law_888 (by decide) (pc' := 889) rfl ?_
  refine v_iadd g dk_L_law_889 (pc' := 890) rfl ?_
  refine v_sld g hX hbl (Nat.not_le.mpr hbl) h1 dk_L_law_890 (pc' := 891) rfl ?_
  refine v_aload_n g dk_L_law_891 0 rfl rfl (pc' := 892) rfl ?_
  refine v_iload_n g dk_L_law_892 3 rfl rfl (pc' := 893) rfl ?_
  refine v_iconst (v := 2) g dk_L_law_893 (by decide) (pc' := 894) rfl ?_
  refine v_iadd g dk_L_law_894 (pc' := 895) rfl ?_
  refine v_sld g hX hbl (Nat.not_le.mpr hbl) h2 dk_L_law_895 (pc' := 896) rfl ?_
  obtain ⟨r, hC, hM, hR⟩ := hop S T (xs (x3 + 1).toNatClampNeg) (xs (x3 + 2).toNatClampNeg) hRel
  refine v_lawC (As := [.int (xs (x3 + 1).toNatClampNeg), .int (xs (x3 + 2).toNatClampNeg)]) (rest := []) (S1 := S) (r := r) g hKC (fun _ h => h) (c_CX_pair hC) (kcL_113 g.2.2.2.2 rfl rfl (Nat.le_of_ble_eq_true rfl) (Nat.le_of_ble_eq_true rfl)) rfl rfl (Nat.le_of_ble_eq_true rfl) dk_L_law_896 (pc' := 899) rfl ?_
  refine v_aload_n g dk_L_law_899 2 rfl rfl (pc' := 900) rfl ?_
  refine v_aload_n g dk_L_law_900 0 rfl rfl (pc' := 901) rfl ?_
  refine v_iload_n g dk_L_law_901 3 rfl rfl (pc' := 902) rfl ?_
  refine v_iconst (v := 1) g dk_L_law_902 (by decide) (pc' := 903) rfl ?_
  refine v_iadd g dk_L_law_903 (pc' := 904) rfl ?_
  refine v_sld g hX hbl (Nat.not_le.mpr hbl) h1 dk_L_law_904 (pc' := 905) rfl ?_
  refine v_aload_n g dk_L_law_905 0 rfl rfl (pc' := 906) rfl ?_
  refine v_iload_n g dk_L_law_906 3 rfl rfl (pc' := 907) rfl ?_
  refine v_iconst (v := 2) g dk_L_law_907 (by decide) (pc' := 908) rfl ?_
  refine v_iadd g dk_L_law_908 (pc' := 909) rfl ?_
  refine v_sld g hX hbl (Nat.not_le.mpr hbl) h2 dk_L_law_909 (pc' := 910) rfl ?_
  refine v_lawM (As := [.int (xs (x3 + 1).toNatClampNeg), .int (xs (x3 + 2).toNatClampNeg)]) (rest := [.int r]) (T1 := T) (r := r) g hKM (fun _ h => h) (c_MX_pair hM) (kcL_116 g.2.2.2.2 rfl rfl (Nat.le_of_ble_eq_true rfl) (Nat.le_of_ble_eq_true rfl)) rfl rfl (Nat.le_of_ble_eq_true rfl) dk_L_law_910 (pc' := 913) rfl ?_
  refine v_icmp_eq (tgt := 918) (pc' := 916) g dk_L_law_913 (by decide) rfl (fun _ => ?_) (fun hne => absurd rfl hne)
  exact cont _ _ hR
