theorem law_lt {i L : Nat} {x3 : Int32} (hL : L ≤ 2560) (hi : i ≤ L) (hx3 : x3 = nI i) (hc : ¬ (Int32.ofNat L - 5 < x3)) : i + 4 < L := by
  rcases Nat.lt_or_ge (i + 4) L with h | h
  · exact h
  · exfalso
    apply hc
    have e : (Int32.ofNat L - 5 : Int32) = nI L - nI 5 := rfl
    rw [e, hx3, Int32.lt_iff_toInt_lt, pk_sub_toInt (by omega) (by omega), nI_toInt (by omega)]
    omega
theorem in_of_lt {i j L : Nat} (h : i + j < L) (hL : L ≤ 2560) : inb (nI i + nI j) L = true := by
  rw [nI_add]
  unfold inb
  exact decide_eq_true (nI_in h (by omega))
theorem ts_lo (x : Int32) : ∃ j : Nat, j < 32 ∧ x &&& 31 = nI j := pk_andE x 5 (by decide)
set_option maxHeartbeats 8000000 in
set_option maxRecDepth 100000 in
theorem law_loop {Rel : StC → StM → Prop} (hop0 : Op0 Rel) (hop1 : Op1 Rel) (hop2 : Op2 Rel) (hop3 : Op3 Rel) (hop4 : Op4 Rel) (hop5 : Op5 Rel) (hop6 : Op6 Rel) (hop7 : Op7 Rel) (hop8 : Op8 Rel) (hop9 : Op9 Rel) (hop10 : Op10 Rel) (hop11 : Op11 Rel) (hop12 : Op12 Rel) (hop13 : Op13 Rel) (hop14 : Op14 Rel) (hop15 : Op15 Rel) (hop16 : Op16 Rel) (hop17 : Op17 Rel) (hop18 : Op18 Rel) (hop19 : Op19 Rel) (hop20 : Op20 Rel) (hop21 : Op21 Rel) (hop22 : Op22 Rel) (hop23 : Op23 Rel) {p : Program} {l : Launch} {e : Env} {s : State} {m : MethodId} {below : List Frame} {meth : Method} {c : Code} {D : va_G} {adC adM : Nat → Nat} {caC caM : Nat → ClassId} {b L : Nat} {xs : Nat → Int32} (hL : L ≤ 2560) (g : CallFix p m c code 4 s #[Value.ref b] tb RL) (hr : meth.sig.returnType = ret) (hlk : meth.locks = false) (hKC : va_K D vwCl (tyC caC) s) (hKM : va_K D vwCl (tyM caM) s) (hX : va_X b L xs s s.heap) (hbl : b < s.heap.size) : ∀ (n i : Nat) (x3 : Int32) (S : StC) (T : StM), L + 1 ≤ i + n → i ≤ L → x3 = nI i → Rel S T → Vj p l e room_1 s m #[Value.ref b] below meth c (lw_Z below #[Value.ref b] s) D vwCl (fun q : Nat => s.heap.size ≤ q) 4 65 8649 (wdC adC caC S ++ wdM adM caM T) 18 [(0, .ref b), (1, .ref (adC 0)), (2, .ref (adM 0)), (3, .int x3)] [] := by
  intro n
  induction n with
  | zero => intro i x3 S T h1 h2; exact absurd h1 (by omega)
  | succ n ih =>
    intro i x3 S T hin hi hx3 hRel
    have hsub : (Int32.ofNat L : Int32) - 5 = nI L - nI 5 := rfl
    refine v_iload_n g dk_L_law_18 3 rfl rfl (pc' := 19) rfl ?_
    refine v_aload_n g dk_L_law_19 0 rfl rfl (pc' := 20) rfl ?_
    refine v_slen g hX hbl (Nat.not_le.mpr hbl) dk_L_law_20 (pc' := 21) rfl ?_
    refine v_iconst (v := 5) g dk_L_law_21 (by decide) (pc' := 22) rfl ?_
    refine v_isub g dk_L_law_22 (pc' := 23) rfl ?_
    refine v_icmp_gt (tgt := 924) (pc' := 26) g dk_L_law_23 (by decide) rfl (fun hc => ?_) (fun hc => ?_)
    · refine v_iconst (v := 1) g dk_L_law_924 (by decide) (pc' := 925) rfl ?_
      exact fun H locs ls hP hD hS hh => va_forget (fun q hq => hS.2.2 q hq) (W.widen (k := 600000) (n := 7302250) (Nat.le_of_ble_eq_true rfl) (Nat.le_of_ble_eq_true rfl) (lw_ret g.1 g.2.1 hr hlk dk_L_law_925))
    · have hlt : i + 4 < L := law_lt hL hi hx3 hc
      have e0 : inb x3 L = true := by rw [hx3]; exact decide_eq_true (nI_in (show i < L by omega) (by omega))
      have e1 : inb (x3 + 1) L = true := by rw [hx3]; exact (in_of_lt (i := i) (j := 1) (by omega) hL)
      have e2 : inb (x3 + 2) L = true := by rw [hx3]; exact (in_of_lt (i := i) (j := 2) (by omega) hL)
      have e3 : inb (x3 + 3) L = true := by rw [hx3]; exact (in_of_lt (i := i) (j := 3) (by omega) hL)
      have e4 : inb (x3 + 4) L = true := by rw [hx3]; exact (in_of_lt (i := i) (j := 4) (by omega) hL)
      have cont : ∀ S T, Rel S T → Vj p l e room_1 s m #[Value.ref b] below meth c (lw_Z below #[Value.ref b] s) D vwCl (fun q : Nat => s.heap.size ≤ q) 4 65 8649 (wdC adC caC S ++ wdM adM caM T) 918 [(0, .ref b), (1, .ref (adC 0)), (2, .ref (adM 0)), (3, .int x3)] [] := by
        intro S T hRel
        refine v_iinc (j := 3) (v := x3 + 5) (lv' := [(3, .int (x3 + 5)), (0, .ref b), (1, .ref (adC 0)), (2, .ref (adM 0))]) g dk_L_law_918 rfl rfl (by decide) rfl (pc' := 921) rfl ?_
        refine v_goto (tgt := 18) g dk_L_law_921 (by decide) ?_
        refine v_sub [1, 2, 3, 0] rfl ?_
        exact ih (i + 5) (x3 + 5) S T (by omega) (by omega) (by rw [hx3]; exact nI_add i 5) hRel
      refine v_aload_n g dk_L_law_26 0 rfl rfl (pc' := 27) rfl ?_
      refine v_iload_n g dk_L_law_27 3 rfl rfl (pc' := 28) rfl ?_
      refine v_sld g hX hbl (Nat.not_le.mpr hbl) e0 dk_L_law_28 (pc' := 29) rfl ?_
      refine v_bipush (v := 31) g dk_L_law_29 (by decide) (pc' := 31) rfl ?_
      refine v_iand g dk_L_law_31 (pc' := 32) rfl ?_
      obtain ⟨j, hj, ej⟩ := ts_lo (xs x3.toNatClampNeg)
      rw [ej]
      have h24 : j < 24 ∨ 24 ≤ j := by omega
      rcases h24 with h24 | h24
      · rcases (show j = 0 ∨ j = 1 ∨ j = 2 ∨ j = 3 ∨ j = 4 ∨ j = 5 ∨ j = 6 ∨ j = 7 ∨ j = 8 ∨ j = 9 ∨ j = 10 ∨ j = 11 ∨ j = 12 ∨ j = 13 ∨ j = 14 ∨ j = 15 ∨ j = 16 ∨ j = 17 ∨ j = 18 ∨ j = 19 ∨ j = 20 ∨ j = 21 ∨ j = 22 ∨ j = 23 by omega) with rfl | rfl | rfl | rfl | rfl | rfl | rfl | rfl | rfl | rfl | rfl | rfl | rfl | rfl | rfl | rfl | rfl | rfl | rfl | rfl | rfl | rfl | rfl | rfl
        · refine v_tableIn (off := 112) (tgt := 144) g dk_L_law_32 (by decide) (by decide) rfl (by decide) ?_
          exact law_0 hop0 g hKC hKM hX hbl e1 e2 e3 e4 hRel cont
        · refine v_tableIn (off := 145) (tgt := 177) g dk_L_law_32 (by decide) (by decide) rfl (by decide) ?_
          exact law_1 hop1 g hKC hKM hX hbl e1 e2 e3 e4 hRel cont
        · refine v_tableIn (off := 168) (tgt := 200) g dk_L_law_32 (by decide) (by decide) rfl (by decide) ?_
          exact law_2 hop2 g hKC hKM hX hbl e1 e2 e3 e4 hRel cont
        · refine v_tableIn (off := 191) (tgt := 223) g dk_L_law_32 (by decide) (by decide) rfl (by decide) ?_
          exact law_3 hop3 g hKC hKM hX hbl e1 e2 e3 e4 hRel cont
        · refine v_tableIn (off := 204) (tgt := 236) g dk_L_law_32 (by decide) (by decide) rfl (by decide) ?_
          exact law_4 hop4 g hKC hKM hX hbl e1 e2 e3 e4 hRel cont
        · refine v_tableIn (off := 247) (tgt := 279) g dk_L_law_32 (by decide) (by decide) rfl (by decide) ?_
          exact law_5 hop5 g hKC hKM hX hbl e1 e2 e3 e4 hRel cont
        · refine v_tableIn (off := 260) (tgt := 292) g dk_L_law_32 (by decide) (by decide) rfl (by decide) ?_
          exact law_6 hop6 g hKC hKM hX hbl e1 e2 e3 e4 hRel cont
        · refine v_tableIn (off := 329) (tgt := 361) g dk_L_law_32 (by decide) (by decide) rfl (by decide) ?_
          exact law_7 hop7 g hKC hKM hX hbl e1 e2 e3 e4 hRel cont
        · refine v_tableIn (off := 342) (tgt := 374) g dk_L_law_32 (by decide) (by decide) rfl (by decide) ?_
          exact law_8 hop8 g hKC hKM hX hbl e1 e2 e3 e4 hRel cont
        · refine v_tableIn (off := 375) (tgt := 407) g dk_L_law_32 (by decide) (by decide) rfl (by decide) ?_
          exact law_9 hop9 g hKC hKM hX hbl e1 e2 e3 e4 hRel cont
        · refine v_tableIn (off := 398) (tgt := 430) g dk_L_law_32 (by decide) (by decide) rfl (by decide) ?_
          exact law_10 hop10 g hKC hKM hX hbl e1 e2 e3 e4 hRel cont
        · refine v_tableIn (off := 467) (tgt := 499) g dk_L_law_32 (by decide) (by decide) rfl (by decide) ?_
          exact law_11 hop11 g hKC hKM hX hbl e1 e2 e3 e4 hRel cont
        · refine v_tableIn (off := 500) (tgt := 532) g dk_L_law_32 (by decide) (by decide) rfl (by decide) ?_
          exact law_12 hop12 g hKC hKM hX hbl e1 e2 e3 e4 hRel cont
        · refine v_tableIn (off := 523) (tgt := 555) g dk_L_law_32 (by decide) (by decide) rfl (by decide) ?_
          exact law_13 hop13 g hKC hKM hX hbl e1 e2 e3 e4 hRel cont
        · refine v_tableIn (off := 566) (tgt := 598) g dk_L_law_32 (by decide) (by decide) rfl (by decide) ?_
          exact law_14 hop14 g hKC hKM hX hbl e1 e2 e3 e4 hRel cont
        · refine v_tableIn (off := 599) (tgt := 631) g dk_L_law_32 (by decide) (by decide) rfl (by decide) ?_
          exact law_15 hop15 g hKC hKM hX hbl e1 e2 e3 e4 hRel cont
        · refine v_tableIn (off := 632) (tgt := 664) g dk_L_law_32 (by decide) (by decide) rfl (by decide) ?_
          exact law_16 hop16 g hKC hKM hX hbl e1 e2 e3 e4 hRel cont
        · refine v_tableIn (off := 665) (tgt := 697) g dk_L_law_32 (by decide) (by decide) rfl (by decide) ?_
          exact law_17 hop17 g hKC hKM hX hbl e1 e2 e3 e4 hRel cont
        · refine v_tableIn (off := 688) (tgt := 720) g dk_L_law_32 (by decide) (by decide) rfl (by decide) ?_
          exact law_18 hop18 g hKC hKM hX hbl e1 e2 e3 e4 hRel cont
        · refine v_tableIn (off := 721) (tgt := 753) g dk_L_law_32 (by decide) (by decide) rfl (by decide) ?_
          exact law_19 hop19 g hKC hKM hX hbl e1 e2 e3 e4 hRel cont
        · refine v_tableIn (off := 764) (tgt := 796) g dk_L_law_32 (by decide) (by decide) rfl (by decide) ?_
          exact law_20 hop20 g hKC hKM hX hbl e1 e2 e3 e4 hRel cont
        · refine v_tableIn (off := 787) (tgt := 819) g dk_L_law_32 (by decide) (by decide) rfl (by decide) ?_
          exact law_21 hop21 g hKC hKM hX hbl e1 e2 e3 e4 hRel cont
        · refine v_tableIn (off := 820) (tgt := 852) g dk_L_law_32 (by decide) (by decide) rfl (by decide) ?_
          exact law_22 hop22 g hKC hKM hX hbl e1 e2 e3 e4 hRel cont
        · refine v_tableIn (off := 853) (tgt := 885) g dk_L_law_32 (by decide) (by decide) rfl (by decide) ?_
          exact law_23 hop23 g hKC hKM hX hbl e1 e2 e3 e4 hRel cont
      · refine v_tableOut (tgt := 918) g dk_L_law_32 (Or.inr (by rw [nI_toInt (by omega)]; omega)) (by decide) ?_
        exact cont S T hRel
