abbrev rm_CX_leaveOutByWants : Room := { frames := 4, cells := 0, slots := 0, locals := 94 }
def L_CX_leaveOutByWants_2 : Nat → StC → Int32 → Option (StC)
  | 0, _, _ => none
  | n + 1, S, x1 =>
    if (gI S 7) ≤ x1 then some S
    else if inb x1 60 = true then if inb (gA S 21 x1.toNatClampNeg) 16 = true then if inb (gA S 22 x1.toNatClampNeg) 60 = true then if (gA S 7 (gA S 21 x1.toNatClampNeg).toNatClampNeg) = (-1) then L_CX_leaveOutByWants_2 n S (x1 + 1)
    else (m_CX_isMet S (gA S 7 (gA S 21 x1.toNatClampNeg).toNatClampNeg) (gB S 0 (gA S 22 x1.toNatClampNeg).toNatClampNeg)).bind fun q4 =>
    if q4 = 0 then L_CX_leaveOutByWants_2 n (tA S 23 x1 1) (x1 + 1)
    else L_CX_leaveOutByWants_2 n S (x1 + 1) else none else none else none
set_option maxHeartbeats 4000000 in
set_option maxRecDepth 100000 in
theorem w_CX_leaveOutByWants_2 {p : Program} {l : Launch} {e : Env} {s : State} {m : MethodId} {args : Array Value} {below : List Frame} {meth : Method} {c : Code} {A : Nat → Prop} {D : va_G} {ad : Nat → Nat} {ca : Nat → ClassId} {Rm : StC} (g : CallFix p m c bk_0_leaveOutByWants 5 s args tb Rk_0) (hr : meth.sig.returnType = none) (hlk : meth.locks = false) (hK : va_K D vwCl (tyC ca) s) (hA : ∀ q, s.heap.size ≤ q → A q) : ∀ (n : Nat) (S : StC) (x1 : Int32) (o : StC), L_CX_leaveOutByWants_2 n S x1 = some o → (Vj p l e rm_CX_leaveOutByWants s m args below meth c (MQ below (qV D vwCl (tyC ca) (wdC ad ca) A Rm) args s 0 0 A) D vwCl A 5 0 0 (wdC ad ca o) 79 [] []) → Vj p l e rm_CX_leaveOutByWants s m args below meth c (MQ below (qV D vwCl (tyC ca) (wdC ad ca) A Rm) args s 0 0 A) D vwCl A 5 0 0 (wdC ad ca S) 2 [(0, .ref (ad 0)), (1, .int x1)] [] := by
  intro n
  induction n with
  | zero => intro S x1 o hf; exact nomatch (show none = some o from hf)
  | succ n ih =>
    intro S x1 o hf hx
    rw [L_CX_leaveOutByWants_2] at hf
    refine v_iload_n g dk_0_leaveOutByWants_2 1 rfl rfl (pc' := 3) rfl ?_
    refine v_aload_n g dk_0_leaveOutByWants_3 0 rfl rfl (pc' := 4) rfl ?_
    refine gfC_X_61 g hK dk_0_leaveOutByWants_4 (pc' := 7) rfl ?_
    refine gfC_X_222 g hK dk_0_leaveOutByWants_7 (pc' := 10) rfl ?_
    refine v_icmp_ge (tgt := 79) (pc' := 13) g dk_0_leaveOutByWants_10 (by decide) rfl (fun hc => ?_) (fun hc => ?_)
    · replace hf := ifT hc hf
      refine v_sub [] rfl ?_
      have e9 := Option.some.inj hf
      subst e9
      exact hx
    · replace hf := ifF hc hf
      refine v_aload_n g dk_0_leaveOutByWants_13 0 rfl rfl (pc' := 14) rfl ?_
      refine gfC_X_40 g hK dk_0_leaveOutByWants_14 (pc' := 17) rfl ?_
      refine gfC_X_122 g hK dk_0_leaveOutByWants_17 (pc' := 20) rfl ?_
      refine v_aload_n g dk_0_leaveOutByWants_20 0 rfl rfl (pc' := 21) rfl ?_
      refine gfC_X_61 g hK dk_0_leaveOutByWants_21 (pc' := 24) rfl ?_
      refine gfC_X_227 g hK dk_0_leaveOutByWants_24 (pc' := 27) rfl ?_
      refine v_iload_n g dk_0_leaveOutByWants_27 1 rfl rfl (pc' := 28) rfl ?_
      obtain ⟨hb1, hf⟩ := grd hf
      refine alC_32 g hK hb1 dk_0_leaveOutByWants_28 (pc' := 29) rfl ?_
      obtain ⟨hb2, hf⟩ := grd hf
      refine alC_14 g hK hb2 dk_0_leaveOutByWants_29 (pc' := 30) rfl ?_
      refine v_istore_n (lv' := [(2, .int (gA S 7 (gA S 21 x1.toNatClampNeg).toNatClampNeg)), (0, .ref (ad 0)), (1, .int x1)]) g dk_0_leaveOutByWants_30 rfl (by decide) rfl (pc' := 31) rfl ?_
      refine v_aload_n g dk_0_leaveOutByWants_31 1 rfl rfl (pc' := 32) rfl ?_
      refine gfC_X_26 g hK dk_0_leaveOutByWants_32 (pc' := 35) rfl ?_
      refine gfC_X_165 g hK dk_0_leaveOutByWants_35 (pc' := 38) rfl ?_
      refine v_aload_n g dk_0_leaveOutByWants_38 1 rfl rfl (pc' := 39) rfl ?_
      refine gfC_X_61 g hK dk_0_leaveOutByWants_39 (pc' := 42) rfl ?_
      refine gfC_X_230 g hK dk_0_leaveOutByWants_42 (pc' := 45) rfl ?_
      refine v_iload_n g dk_0_leaveOutByWants_45 2 rfl rfl (pc' := 46) rfl ?_
      refine alC_33 g hK hb1 dk_0_leaveOutByWants_46 (pc' := 47) rfl ?_
      obtain ⟨hb3, hf⟩ := grd hf
      refine alC_8 g hK hb3 dk_0_leaveOutByWants_47 (pc' := 48) rfl ?_
      refine v_lstore_n (lv' := [(3, .long (gB S 0 (gA S 22 x1.toNatClampNeg).toNatClampNeg)), (2, .int (gA S 7 (gA S 21 x1.toNatClampNeg).toNatClampNeg)), (0, .ref (ad 0)), (1, .int x1)]) g dk_0_leaveOutByWants_48 rfl (by decide) rfl (pc' := 49) rfl ?_
      refine v_iload_n g dk_0_leaveOutByWants_49 1 rfl rfl (pc' := 50) rfl ?_
      refine v_iconst (v := (-1)) g dk_0_leaveOutByWants_50 (by decide) (pc' := 51) rfl ?_
      refine v_icmp_eq (tgt := 73) (pc' := 54) g dk_0_leaveOutByWants_51 (by decide) rfl (fun hc => ?_) (fun hc => ?_)
      · replace hf := ifT hc hf
        refine v_iinc (j := 3) (v := x1 + 1) (lv' := [(1, .int (x1 + 1)), (3, .long (gB S 0 (gA S 22 x1.toNatClampNeg).toNatClampNeg)), (2, .int (gA S 7 (gA S 21 x1.toNatClampNeg).toNatClampNeg)), (0, .ref (ad 0))]) g dk_0_leaveOutByWants_73 rfl rfl (by decide) rfl (pc' := 76) rfl ?_
        refine v_goto (tgt := 2) g dk_0_leaveOutByWants_76 (by decide) ?_
        refine v_sub [3, 0] rfl ?_
        exact ih S (x1 + 1) o hf hx
      · replace hf := ifF hc hf
        refine v_aload_n g dk_0_leaveOutByWants_54 2 rfl rfl (pc' := 55) rfl ?_
        refine v_iload_n g dk_0_leaveOutByWants_55 1 rfl rfl (pc' := 56) rfl ?_
        refine v_lload_n g dk_0_leaveOutByWants_56 0 rfl rfl (pc' := 57) rfl ?_
        obtain ⟨q4, hq, hf⟩ := bnd hf
        refine v_callV_i (As := [.int (gA S 7 (gA S 21 x1.toNatClampNeg).toNatClampNeg), .long (gB S 0 (gA S 22 x1.toNatClampNeg).toNatClampNeg)]) (rest := []) (r := q4) (S1 := S) g hK hA (c_CX_isMet hq) (kcC_X_176 g.2.2.2.2 rfl rfl (Nat.le_of_ble_eq_true rfl) (Nat.le_of_ble_eq_true rfl)) (ci := 0) (q0 := 0) rfl rfl rfl rfl rfl (Nat.le_of_ble_eq_true rfl) dk_0_leaveOutByWants_57 (Nat.zero_le _) (Nat.zero_le _) (pc' := 60) rfl ?_
        refine v_if_ne (tgt := 73) (pc' := 63) g dk_0_leaveOutByWants_60 (by decide) rfl (fun hc => ?_) (fun hc => ?_)
        · replace hf := ifF hc hf
          refine v_iinc (j := 3) (v := x1 + 1) (lv' := [(1, .int (x1 + 1)), (3, .long (gB S 0 (gA S 22 x1.toNatClampNeg).toNatClampNeg)), (2, .int (gA S 7 (gA S 21 x1.toNatClampNeg).toNatClampNeg)), (0, .ref (ad 0))]) g dk_0_leaveOutByWants_73 rfl rfl (by decide) rfl (pc' := 76) rfl ?_
          refine v_goto (tgt := 2) g dk_0_leaveOutByWants_76 (by decide) ?_
          refine v_sub [3, 0] rfl ?_
          exact ih S (x1 + 1) o hf hx
        · replace hf := ifT hc hf
          refine v_aload_n g dk_0_leaveOutByWants_63 2 rfl rfl (pc' := 64) rfl ?_
          refine gfC_X_61 g hK dk_0_leaveOutByWants_64 (pc' := 67) rfl ?_
          refine gfC_X_233 g hK dk_0_leaveOutByWants_67 (pc' := 70) rfl ?_
          refine v_iload_n g dk_0_leaveOutByWants_70 3 rfl rfl (pc' := 71) rfl ?_
          refine v_iconst (v := 1) g dk_0_leaveOutByWants_71 (by decide) (pc' := 72) rfl ?_
          refine asC_34 g hK hb1 dk_0_leaveOutByWants_72 (pc' := 73) rfl ?_
          refine v_iinc (j := 3) (v := x1 + 1) (lv' := [(1, .int (x1 + 1)), (3, .long (gB S 0 (gA S 22 x1.toNatClampNeg).toNatClampNeg)), (2, .int (gA S 7 (gA S 21 x1.toNatClampNeg).toNatClampNeg)), (0, .ref (ad 0))]) g dk_0_leaveOutByWants_73 rfl rfl (by decide) rfl (pc' := 76) rfl ?_
          refine v_goto (tgt := 2) g dk_0_leaveOutByWants_76 (by decide) ?_
          refine v_sub [3, 0] rfl ?_
          exact ih (tA S 23 x1 1) (x1 + 1) o hf hx
def m_CX_leaveOutByWants (S : StC) : Option StC :=
  (L_CX_leaveOutByWants_2 100 S 0).bind fun y6 =>
    some y6
set_option maxHeartbeats 4000000 in
set_option maxRecDepth 100000 in
theorem c_CX_leaveOutByWants {l : Launch} {D : va_G} {ad : Nat → Nat} {ca : Nat → ClassId} {S : StC} {r : StC} (hf : m_CX_leaveOutByWants S = some r) : KVC l D ad ca yk_0_leaveOutByWants (.code yk_0_leaveOutByWants bk_0_leaveOutByWants 5 none :: tb) rm_CX_leaveOutByWants [.ref (ad 0)] S r := by
  refine met_v (by decide) (Nat.le_of_ble_eq_true rfl) (fun p e s m below meth c A g hr hlk hK hA => ?_)
  replace g : CallFix p m c bk_0_leaveOutByWants 5 s _ tb Rk_0 := g
  refine v_lv (lv' := [(0, .ref (ad 0))]) rfl ?_
  unfold m_CX_leaveOutByWants at hf
  refine v_iconst (v := 0) g dk_0_leaveOutByWants_0 (by decide) (pc' := 1) rfl ?_
  refine v_istore_n (lv' := [(1, .int 0), (0, .ref (ad 0))]) g dk_0_leaveOutByWants_1 rfl (by decide) rfl (pc' := 2) rfl ?_
  refine v_sub [1, 0] rfl ?_
  obtain ⟨y6, hL, hf⟩ := bnd hf
  refine w_CX_leaveOutByWants_2 g hr hlk hK hA 100 S 0 _ hL ?_
  exact v_vret g hr hlk hK  (Option.some.inj hf) dk_0_leaveOutByWants_79
abbrev rm_CPairs_allLeftOut : Room := { frames := 0, cells := 0, slots := 0, locals := 0 }
def L_CPairs_allLeftOut_4 (S : StC) : Nat → Int64 → Int32 → Option (Int64)
  | 0, _, _ => none
  | n + 1, x1, x3 =>
    if (gI S 7) ≤ x3 then some x1
    else if inb x3 60 = true then if (gA S 23 x3.toNatClampNeg) = 0 then L_CPairs_allLeftOut_4 S n x1 (x3 + 1)
    else L_CPairs_allLeftOut_4 S n (x1 ||| ((1 : Int64) <<< (x3.toInt64 &&& 63))) (x3 + 1) else none
set_option maxHeartbeats 4000000 in
set_option maxRecDepth 100000 in
theorem w_CPairs_allLeftOut_4 {p : Program} {l : Launch} {e : Env} {s : State} {m : MethodId} {args : Array Value} {below : List Frame} {meth : Method} {c : Code} {A : Nat → Prop} {D : va_G} {ad : Nat → Nat} {ca : Nat → ClassId} {Rm : Int64 × StC} {S : StC} (g : CallFix p m c bk_8_allLeftOut 4 s args tb Rk_8) (hr : meth.sig.returnType = some .long) (hlk : meth.locks = false) (hK : va_K D vwCl (tyC ca) s) (hA : ∀ q, s.heap.size ≤ q → A q) : ∀ (n : Nat) (x1 : Int64) (x3 : Int32) (o : Int64), L_CPairs_allLeftOut_4 S n x1 x3 = some o → (Vj p l e rm_CPairs_allLeftOut s m args below meth c (MQ below (qL D vwCl (tyC ca) (wdC ad ca) A Rm) args s 0 0 A) D vwCl A 4 0 0 (wdC ad ca S) 33 [(1, .long o)] []) → Vj p l e rm_CPairs_allLeftOut s m args below meth c (MQ below (qL D vwCl (tyC ca) (wdC ad ca) A Rm) args s 0 0 A) D vwCl A 4 0 0 (wdC ad ca S) 4 [(0, .ref (ad 31)), (1, .long x1), (3, .int x3)] [] := by
  intro n
  induction n with
  | zero => intro x1 x3 o hf; exact nomatch (show none = some o from hf)
  | succ n ih =>
    intro x1 x3 o hf hx
    rw [L_CPairs_allLeftOut_4] at hf
    refine v_iload_n g dk_8_allLeftOut_4 2 rfl rfl (pc' := 5) rfl ?_
    refine v_aload_n g dk_8_allLeftOut_5 0 rfl rfl (pc' := 6) rfl ?_
    refine gfC_Pairs_25 g hK dk_8_allLeftOut_6 (pc' := 9) rfl ?_
    refine v_icmp_ge (tgt := 33) (pc' := 12) g dk_8_allLeftOut_9 (by decide) rfl (fun hc => ?_) (fun hc => ?_)
    · replace hf := ifT hc hf
      refine v_sub [1] rfl ?_
      have e9 := Option.some.inj hf
      subst e9
      exact hx
    · replace hf := ifF hc hf
      refine v_aload_n g dk_8_allLeftOut_12 0 rfl rfl (pc' := 13) rfl ?_
      refine gfC_Pairs_18 g hK dk_8_allLeftOut_13 (pc' := 16) rfl ?_
      refine v_iload_n g dk_8_allLeftOut_16 2 rfl rfl (pc' := 17) rfl ?_
      obtain ⟨hb1, hf⟩ := grd hf
      refine alC_34 g hK hb1 dk_8_allLeftOut_17 (pc' := 18) rfl ?_
      refine v_if_eq (tgt := 27) (pc' := 21) g dk_8_allLeftOut_18 (by decide) rfl (fun hc => ?_) (fun hc => ?_)
      · replace hf := ifT hc hf
        refine v_iinc (j := 2) (v := x3 + 1) (lv' := [(3, .int (x3 + 1)), (0, .ref (ad 31)), (1, .long x1)]) g dk_8_allLeftOut_27 rfl rfl (by decide) rfl (pc' := 30) rfl ?_
        refine v_goto (tgt := 4) g dk_8_allLeftOut_30 (by decide) ?_
        refine v_sub [1, 2, 0] rfl ?_
        exact ih x1 (x3 + 1) o hf hx
      · replace hf := ifF hc hf
        refine v_lload_n g dk_8_allLeftOut_21 1 rfl rfl (pc' := 22) rfl ?_
        refine v_lconst (v := 1) g dk_8_allLeftOut_22 (by decide) (pc' := 23) rfl ?_
        refine v_iload_n g dk_8_allLeftOut_23 2 rfl rfl (pc' := 24) rfl ?_
        refine v_lshl g dk_8_allLeftOut_24 (pc' := 25) rfl ?_
        refine v_lor g dk_8_allLeftOut_25 (pc' := 26) rfl ?_
        refine v_lstore_n (lv' := [(1, .long (x1 ||| ((1 : Int64) <<< (x3.toInt64 &&& 63)))), (0, .ref (ad 31)), (3, .int x3)]) g dk_8_allLeftOut_26 rfl (by decide) rfl (pc' := 27) rfl ?_
        refine v_iinc (j := 2) (v := x3 + 1) (lv' := [(3, .int (x3 + 1)), (1, .long (x1 ||| ((1 : Int64) <<< (x3.toInt64 &&& 63)))), (0, .ref (ad 31))]) g dk_8_allLeftOut_27 rfl rfl (by decide) rfl (pc' := 30) rfl ?_
        refine v_goto (tgt := 4) g dk_8_allLeftOut_30 (by decide) ?_
        refine v_sub [2, 1, 0] rfl ?_
        exact ih (x1 ||| ((1 : Int64) <<< (x3.toInt64 &&& 63))) (x3 + 1) o hf hx
def m_CPairs_allLeftOut (S : StC) : Option Int64 :=
  (L_CPairs_allLeftOut_4 S 100 0 0).bind fun y3 =>
    some y3
set_option maxHeartbeats 4000000 in
set_option maxRecDepth 100000 in
theorem c_CPairs_allLeftOut {l : Launch} {D : va_G} {ad : Nat → Nat} {ca : Nat → ClassId} {S : StC} {r : Int64} (hf : m_CPairs_allLeftOut S = some r) : KLC l D ad ca yk_8_allLeftOut (.code yk_8_allLeftOut bk_8_allLeftOut 4 (some .long) :: tb) rm_CPairs_allLeftOut [.ref (ad 31)] S (r, S) := by
  refine met_l (by decide) (Nat.le_of_ble_eq_true rfl) (fun p e s m below meth c A g hr hlk hK hA => ?_)
  replace g : CallFix p m c bk_8_allLeftOut 4 s _ tb Rk_8 := g
  refine v_lv (lv' := [(0, .ref (ad 31))]) rfl ?_
  unfold m_CPairs_allLeftOut at hf
  refine v_lconst (v := 0) g dk_8_allLeftOut_0 (by decide) (pc' := 1) rfl ?_
  refine v_lstore_n (lv' := [(1, .long 0), (0, .ref (ad 31))]) g dk_8_allLeftOut_1 rfl (by decide) rfl (pc' := 2) rfl ?_
  refine v_iconst (v := 0) g dk_8_allLeftOut_2 (by decide) (pc' := 3) rfl ?_
  refine v_istore_n (lv' := [(3, .int 0), (1, .long 0), (0, .ref (ad 31))]) g dk_8_allLeftOut_3 rfl (by decide) rfl (pc' := 4) rfl ?_
  refine v_sub [2, 1, 0] rfl ?_
  obtain ⟨y3, hL, hf⟩ := bnd hf
  refine w_CPairs_allLeftOut_4 g hr hlk hK hA 100 0 0 _ hL ?_
  refine v_lload_n g dk_8_allLeftOut_33 0 rfl rfl (pc' := 34) rfl ?_
  exact v_lret g hr hlk hK  (pinj hf) dk_8_allLeftOut_34
abbrev rm_CPairs_leaveOutByNeeds : Room := { frames := 1, cells := 0, slots := 0, locals := 23 }
def L_CPairs_leaveOutByNeeds_16 (x1 : Int32) (x2 : Int64) : Nat → StC → Int32 → Option (StC)
  | 0, _, _ => none
  | n + 1, S, x4 =>
    if (gI S 7) ≤ x4 then some S
    else if inb x4 60 = true then if (gA S 23 x4.toNatClampNeg) = 0 then if (lg_cmp ((gB S 2 x4.toNatClampNeg) &&& x2) (0 : Int64)) = 0 then L_CPairs_leaveOutByNeeds_16 x1 x2 n S (x4 + 1)
    else L_CPairs_leaveOutByNeeds_16 x1 x2 n (tA S 23 x4 2) (x4 + 1)
    else L_CPairs_leaveOutByNeeds_16 x1 x2 n S (x4 + 1) else none
set_option maxHeartbeats 4000000 in
set_option maxRecDepth 100000 in
theorem w_CPairs_leaveOutByNeeds_16 {p : Program} {l : Launch} {e : Env} {s : State} {m : MethodId} {args : Array Value} {below : List Frame} {meth : Method} {c : Code} {A : Nat → Prop} {D : va_G} {ad : Nat → Nat} {ca : Nat → ClassId} {Rm : StC} {x1 : Int32} {x2 : Int64} (g : CallFix p m c bk_8_leaveOutByNeeds 5 s args tb Rk_8) (hr : meth.sig.returnType = none) (hlk : meth.locks = false) (hK : va_K D vwCl (tyC ca) s) (hA : ∀ q, s.heap.size ≤ q → A q) : ∀ (n : Nat) (S : StC) (x4 : Int32) (o : StC), L_CPairs_leaveOutByNeeds_16 x1 x2 n S x4 = some o → (Vj p l e rm_CPairs_leaveOutByNeeds s m args below meth c (MQ below (qV D vwCl (tyC ca) (wdC ad ca) A Rm) args s 0 0 A) D vwCl A 5 0 0 (wdC ad ca o) 63 [(0, .ref (ad 31)), (1, .int x1), (2, .long x2)] []) → Vj p l e rm_CPairs_leaveOutByNeeds s m args below meth c (MQ below (qV D vwCl (tyC ca) (wdC ad ca) A Rm) args s 0 0 A) D vwCl A 5 0 0 (wdC ad ca S) 16 [(0, .ref (ad 31)), (1, .int x1), (2, .long x2), (4, .int x4)] [] := by
  intro n
  induction n with
  | zero => intro S x4 o hf; exact nomatch (show none = some o from hf)
  | succ n ih =>
    intro S x4 o hf hx
    rw [L_CPairs_leaveOutByNeeds_16] at hf
    refine v_iload g dk_8_leaveOutByNeeds_16 3 rfl (pc' := 18) rfl ?_
    refine v_aload_n g dk_8_leaveOutByNeeds_18 0 rfl rfl (pc' := 19) rfl ?_
    refine gfC_Pairs_25 g hK dk_8_leaveOutByNeeds_19 (pc' := 22) rfl ?_
    refine v_icmp_ge (tgt := 63) (pc' := 25) g dk_8_leaveOutByNeeds_22 (by decide) rfl (fun hc => ?_) (fun hc => ?_)
    · replace hf := ifT hc hf
      refine v_sub [0, 1, 2] rfl ?_
      have e9 := Option.some.inj hf
      subst e9
      exact hx
    · replace hf := ifF hc hf
      refine v_aload_n g dk_8_leaveOutByNeeds_25 0 rfl rfl (pc' := 26) rfl ?_
      refine gfC_Pairs_18 g hK dk_8_leaveOutByNeeds_26 (pc' := 29) rfl ?_
      refine v_iload g dk_8_leaveOutByNeeds_29 3 rfl (pc' := 31) rfl ?_
      obtain ⟨hb2, hf⟩ := grd hf
      refine alC_34 g hK hb2 dk_8_leaveOutByNeeds_31 (pc' := 32) rfl ?_
      refine v_if_ne (tgt := 57) (pc' := 35) g dk_8_leaveOutByNeeds_32 (by decide) rfl (fun hc => ?_) (fun hc => ?_)
      · replace hf := ifF hc hf
        refine v_iinc (j := 3) (v := x4 + 1) (lv' := [(4, .int (x4 + 1)), (0, .ref (ad 31)), (1, .int x1), (2, .long x2)]) g dk_8_leaveOutByNeeds_57 rfl rfl (by decide) rfl (pc' := 60) rfl ?_
        refine v_goto (tgt := 16) g dk_8_leaveOutByNeeds_60 (by decide) ?_
        refine v_sub [1, 2, 3, 0] rfl ?_
        exact ih S (x4 + 1) o hf hx
      · replace hf := ifT hc hf
        refine v_aload_n g dk_8_leaveOutByNeeds_35 0 rfl rfl (pc' := 36) rfl ?_
        refine gfC_Pairs_21 g hK dk_8_leaveOutByNeeds_36 (pc' := 39) rfl ?_
        refine v_iload g dk_8_leaveOutByNeeds_39 3 rfl (pc' := 41) rfl ?_
        refine alC_35 g hK hb2 dk_8_leaveOutByNeeds_41 (pc' := 42) rfl ?_
        refine v_lload_n g dk_8_leaveOutByNeeds_42 2 rfl rfl (pc' := 43) rfl ?_
        refine v_land g dk_8_leaveOutByNeeds_43 (pc' := 44) rfl ?_
        refine v_lconst (v := 0) g dk_8_leaveOutByNeeds_44 (by decide) (pc' := 45) rfl ?_
        refine v_lcmp g dk_8_leaveOutByNeeds_45 (pc' := 46) rfl ?_
        refine v_if_eq (tgt := 57) (pc' := 49) g dk_8_leaveOutByNeeds_46 (by decide) rfl (fun hc => ?_) (fun hc => ?_)
        · replace hf := ifT hc hf
          refine v_iinc (j := 3) (v := x4 + 1) (lv' := [(4, .int (x4 + 1)), (0, .ref (ad 31)), (1, .int x1), (2, .long x2)]) g dk_8_leaveOutByNeeds_57 rfl rfl (by decide) rfl (pc' := 60) rfl ?_
          refine v_goto (tgt := 16) g dk_8_leaveOutByNeeds_60 (by decide) ?_
          refine v_sub [1, 2, 3, 0] rfl ?_
          exact ih S (x4 + 1) o hf hx
        · replace hf := ifF hc hf
          refine v_aload_n g dk_8_leaveOutByNeeds_49 0 rfl rfl (pc' := 50) rfl ?_
          refine gfC_Pairs_18 g hK dk_8_leaveOutByNeeds_50 (pc' := 53) rfl ?_
          refine v_iload g dk_8_leaveOutByNeeds_53 3 rfl (pc' := 55) rfl ?_
          refine v_iconst (v := 2) g dk_8_leaveOutByNeeds_55 (by decide) (pc' := 56) rfl ?_
          refine asC_34 g hK hb2 dk_8_leaveOutByNeeds_56 (pc' := 57) rfl ?_
          refine v_iinc (j := 3) (v := x4 + 1) (lv' := [(4, .int (x4 + 1)), (0, .ref (ad 31)), (1, .int x1), (2, .long x2)]) g dk_8_leaveOutByNeeds_57 rfl rfl (by decide) rfl (pc' := 60) rfl ?_
          refine v_goto (tgt := 16) g dk_8_leaveOutByNeeds_60 (by decide) ?_
          refine v_sub [1, 2, 3, 0] rfl ?_
          exact ih (tA S 23 x4 2) (x4 + 1) o hf hx
def L_CPairs_leaveOutByNeeds_2 : Nat → StC → Int32 → Option (StC ⊕ StC)
  | 0, _, _ => none
  | n + 1, S, x1 =>
    if 60 ≤ x1 then some (.inl S)
    else (m_CPairs_allLeftOut S).bind fun q1 =>
    (L_CPairs_leaveOutByNeeds_16 x1 q1 100 S 0).bind fun y4 =>
    (m_CPairs_allLeftOut y4).bind fun q5 =>
    if (lg_cmp q5 q1) = 0 then some (.inr y4)
    else L_CPairs_leaveOutByNeeds_2 n y4 (x1 + 1)
set_option maxHeartbeats 4000000 in
set_option maxRecDepth 100000 in
theorem w_CPairs_leaveOutByNeeds_2 {p : Program} {l : Launch} {e : Env} {s : State} {m : MethodId} {args : Array Value} {below : List Frame} {meth : Method} {c : Code} {A : Nat → Prop} {D : va_G} {ad : Nat → Nat} {ca : Nat → ClassId} {Rm : StC} (g : CallFix p m c bk_8_leaveOutByNeeds 5 s args tb Rk_8) (hr : meth.sig.returnType = none) (hlk : meth.locks = false) (hK : va_K D vwCl (tyC ca) s) (hA : ∀ q, s.heap.size ≤ q → A q) : ∀ (n : Nat) (S : StC) (x1 : Int32) (o : StC ⊕ StC), L_CPairs_leaveOutByNeeds_2 n S x1 = some o → (∀ y, o = .inl y → Vj p l e rm_CPairs_leaveOutByNeeds s m args below meth c (MQ below (qV D vwCl (tyC ca) (wdC ad ca) A Rm) args s 0 0 A) D vwCl A 5 0 0 (wdC ad ca y) 79 [] []) → (∀ r, o = .inr r → r = Rm) → Vj p l e rm_CPairs_leaveOutByNeeds s m args below meth c (MQ below (qV D vwCl (tyC ca) (wdC ad ca) A Rm) args s 0 0 A) D vwCl A 5 0 0 (wdC ad ca S) 2 [(0, .ref (ad 31)), (1, .int x1)] [] := by
  intro n
  induction n with
  | zero => intro S x1 o hf; exact nomatch (show none = some o from hf)
  | succ n ih =>
    intro S x1 o hf hx hret
    rw [L_CPairs_leaveOutByNeeds_2] at hf
    refine v_iload_n g dk_8_leaveOutByNeeds_2 1 rfl rfl (pc' := 3) rfl ?_
    refine v_bipush (v := 60) g dk_8_leaveOutByNeeds_3 (by decide) (pc' := 5) rfl ?_
    refine v_icmp_ge (tgt := 79) (pc' := 8) g dk_8_leaveOutByNeeds_5 (by decide) rfl (fun hc => ?_) (fun hc => ?_)
    · replace hf := ifT hc hf
      refine v_sub [] rfl ?_
      exact hx _ (Option.some.inj hf).symm
    · replace hf := ifF hc hf
      refine v_aload_n g dk_8_leaveOutByNeeds_8 0 rfl rfl (pc' := 9) rfl ?_
      obtain ⟨q1, hq, hf⟩ := bnd hf
      refine v_callV_l (As := []) (rest := []) (r := q1) (S1 := S) g hK hA (c_CPairs_allLeftOut hq) (kcC_Pairs_29 g.2.2.2.2 rfl rfl (Nat.le_of_ble_eq_true rfl) (Nat.le_of_ble_eq_true rfl)) (ci := 5) (q0 := 31) rfl rfl rfl rfl rfl (Nat.le_of_ble_eq_true rfl) dk_8_leaveOutByNeeds_9 (Nat.zero_le _) (Nat.zero_le _) (pc' := 12) rfl ?_
      refine v_lstore_n (lv' := [(2, .long q1), (0, .ref (ad 31)), (1, .int x1)]) g dk_8_leaveOutByNeeds_12 rfl (by decide) rfl (pc' := 13) rfl ?_
      refine v_iconst (v := 0) g dk_8_leaveOutByNeeds_13 (by decide) (pc' := 14) rfl ?_
      refine v_istore (lv' := [(4, .int 0), (2, .long q1), (0, .ref (ad 31)), (1, .int x1)]) g dk_8_leaveOutByNeeds_14 (by decide) rfl (pc' := 16) rfl ?_
      refine v_sub [2, 3, 1, 0] rfl ?_
      obtain ⟨y4, hL, hf⟩ := bnd hf
      refine w_CPairs_leaveOutByNeeds_16 g hr hlk hK hA 100 S 0 _ hL ?_
      refine v_aload_n g dk_8_leaveOutByNeeds_63 0 rfl rfl (pc' := 64) rfl ?_
      obtain ⟨q5, hq, hf⟩ := bnd hf
      refine v_callV_l (As := []) (rest := []) (r := q5) (S1 := y4) g hK hA (c_CPairs_allLeftOut hq) (kcC_Pairs_29 g.2.2.2.2 rfl rfl (Nat.le_of_ble_eq_true rfl) (Nat.le_of_ble_eq_true rfl)) (ci := 5) (q0 := 31) rfl rfl rfl rfl rfl (Nat.le_of_ble_eq_true rfl) dk_8_leaveOutByNeeds_64 (Nat.zero_le _) (Nat.zero_le _) (pc' := 67) rfl ?_
      refine v_lload_n g dk_8_leaveOutByNeeds_67 2 rfl rfl (pc' := 68) rfl ?_
      refine v_lcmp g dk_8_leaveOutByNeeds_68 (pc' := 69) rfl ?_
      refine v_if_ne (tgt := 73) (pc' := 72) g dk_8_leaveOutByNeeds_69 (by decide) rfl (fun hc => ?_) (fun hc => ?_)
      · replace hf := ifF hc hf
        refine v_iinc (j := 1) (v := x1 + 1) (lv' := [(1, .int (x1 + 1)), (0, .ref (ad 31)), (2, .long q1)]) g dk_8_leaveOutByNeeds_73 rfl rfl (by decide) rfl (pc' := 76) rfl ?_
        refine v_goto (tgt := 2) g dk_8_leaveOutByNeeds_76 (by decide) ?_
        refine v_sub [1, 0] rfl ?_
        exact ih y4 (x1 + 1) o hf hx hret
      · replace hf := ifT hc hf
        exact v_vret g hr hlk hK  (hret _ (Option.some.inj hf).symm) dk_8_leaveOutByNeeds_72
def m_CPairs_leaveOutByNeeds (S : StC) : Option StC :=
  (L_CPairs_leaveOutByNeeds_2 100 S 0).bind fun o6 => exK o6 fun y7 =>
    some y7
set_option maxHeartbeats 4000000 in
set_option maxRecDepth 100000 in
theorem c_CPairs_leaveOutByNeeds {l : Launch} {D : va_G} {ad : Nat → Nat} {ca : Nat → ClassId} {S : StC} {r : StC} (hf : m_CPairs_leaveOutByNeeds S = some r) : KVC l D ad ca yk_8_leaveOutByNeeds (.code yk_8_leaveOutByNeeds bk_8_leaveOutByNeeds 5 none :: tb) rm_CPairs_leaveOutByNeeds [.ref (ad 31)] S r := by
  refine met_v (by decide) (Nat.le_of_ble_eq_true rfl) (fun p e s m below meth c A g hr hlk hK hA => ?_)
  replace g : CallFix p m c bk_8_leaveOutByNeeds 5 s _ tb Rk_8 := g
  refine v_lv (lv' := [(0, .ref (ad 31))]) rfl ?_
  unfold m_CPairs_leaveOutByNeeds at hf
  refine v_iconst (v := 0) g dk_8_leaveOutByNeeds_0 (by decide) (pc' := 1) rfl ?_
  refine v_istore_n (lv' := [(1, .int 0), (0, .ref (ad 31))]) g dk_8_leaveOutByNeeds_1 rfl (by decide) rfl (pc' := 2) rfl ?_
  refine v_sub [1, 0] rfl ?_
  obtain ⟨o6, hL, hf⟩ := bnd hf
  refine w_CPairs_leaveOutByNeeds_2 g hr hlk hK hA 100 S 0 _ hL (fun y7 hy => ?_) (fun r9 hy => ?_)
  · subst hy
    replace hf := exKl hf
    exact v_vret g hr hlk hK  (Option.some.inj hf) dk_8_leaveOutByNeeds_79
  · subst hy
    exact Option.some.inj hf
abbrev rm_CX_expand : Room := { frames := 5, cells := 0, slots := 0, locals := 132 }
def m_CX_expand (S : StC) (x1 : Int32) (x2 : Int32) : Option (Int32 × StC) :=
  (m_CTargets_isThere S x1).bind fun q1 =>
    if q1 = 0 then some ((-1), S)
    else (m_CConfigurations_isThere S x2).bind fun q2 =>
    if q2 = 0 then some ((-1), S)
    else (m_CX_findWhatTargetsRead S).bind fun q3 =>
    (m_CPairs_clear q3).bind fun q4 =>
    if inb x2 60 = true then (m_CX_findPairs q4 x1 (gB q4 0 x2.toNatClampNeg)).bind fun q6 =>
    if q6.1 = 0 then (m_CPairs_clear q6.2).bind fun q9 =>
    some ((-2), q9)
    else (m_CX_leaveOutByWants q6.2).bind fun q7 =>
    (m_CPairs_leaveOutByNeeds q7).bind fun q8 =>
    some (gI q8 7, q8) else none
set_option maxHeartbeats 4000000 in
set_option maxRecDepth 100000 in
theorem c_CX_expand {l : Launch} {D : va_G} {ad : Nat → Nat} {ca : Nat → ClassId} {S : StC} {x1 : Int32} {x2 : Int32} {r : Int32 × StC} (hf : m_CX_expand S x1 x2 = some r) : KIC l D ad ca yk_0_expand (.code yk_0_expand bk_0_expand 3 (some .int) :: tb) rm_CX_expand [.ref (ad 0), .int x1, .int x2] S r := by
  refine met_i (by decide) (Nat.le_of_ble_eq_true rfl) (fun p e s m below meth c A g hr hlk hK hA => ?_)
  replace g : CallFix p m c bk_0_expand 3 s _ tb Rk_0 := g
  refine v_lv (lv' := [(0, .ref (ad 0)), (1, .int x1), (2, .int x2)]) rfl ?_
  unfold m_CX_expand at hf
  refine v_aload_n g dk_0_expand_0 0 rfl rfl (pc' := 1) rfl ?_
  refine gfC_X_40 g hK dk_0_expand_1 (pc' := 4) rfl ?_
  refine v_iload_n g dk_0_expand_4 1 rfl rfl (pc' := 5) rfl ?_
  obtain ⟨q1, hq, hf⟩ := bnd hf
  refine v_callV_i (As := [.int x1]) (rest := []) (r := q1) (S1 := S) g hK hA (c_CTargets_isThere hq) (kcC_X_121 g.2.2.2.2 rfl rfl (Nat.le_of_ble_eq_true rfl) (Nat.le_of_ble_eq_true rfl)) (ci := 9) (q0 := 13) rfl rfl rfl rfl rfl (Nat.le_of_ble_eq_true rfl) dk_0_expand_5 (Nat.zero_le _) (Nat.zero_le _) (pc' := 8) rfl ?_
  refine v_if_eq (tgt := 22) (pc' := 11) g dk_0_expand_8 (by decide) rfl (fun hc => ?_) (fun hc => ?_)
  · replace hf := ifT hc hf
    refine v_iconst (v := (-1)) g dk_0_expand_22 (by decide) (pc' := 23) rfl ?_
    exact v_iret g hr hlk hK  (Option.some.inj hf) dk_0_expand_23
  · replace hf := ifF hc hf
    refine v_aload_n g dk_0_expand_11 0 rfl rfl (pc' := 12) rfl ?_
    refine gfC_X_26 g hK dk_0_expand_12 (pc' := 15) rfl ?_
    refine v_iload_n g dk_0_expand_15 2 rfl rfl (pc' := 16) rfl ?_
    obtain ⟨q2, hq, hf⟩ := bnd hf
    refine v_callV_i (As := [.int x2]) (rest := []) (r := q2) (S1 := S) g hK hA (c_CConfigurations_isThere hq) (kcC_X_161 g.2.2.2.2 rfl rfl (Nat.le_of_ble_eq_true rfl) (Nat.le_of_ble_eq_true rfl)) (ci := 3) (q0 := 7) rfl rfl rfl rfl rfl (Nat.le_of_ble_eq_true rfl) dk_0_expand_16 (Nat.zero_le _) (Nat.zero_le _) (pc' := 19) rfl ?_
    refine v_if_ne (tgt := 24) (pc' := 22) g dk_0_expand_19 (by decide) rfl (fun hc => ?_) (fun hc => ?_)
    · replace hf := ifF hc hf
      refine v_aload_n g dk_0_expand_24 0 rfl rfl (pc' := 25) rfl ?_
      obtain ⟨q3, hq, hf⟩ := bnd hf
      refine v_callV_v (As := []) (rest := []) (S1 := q3) g hK hA (c_CX_findWhatTargetsRead hq) (kcC_X_204 g.2.2.2.2 rfl rfl (Nat.le_of_ble_eq_true rfl) (Nat.le_of_ble_eq_true rfl)) (ci := 0) (q0 := 0) rfl rfl rfl rfl rfl (Nat.le_of_ble_eq_true rfl) dk_0_expand_25 (Nat.zero_le _) (Nat.zero_le _) (pc' := 28) rfl ?_
      refine v_aload_n g dk_0_expand_28 0 rfl rfl (pc' := 29) rfl ?_
      refine gfC_X_61 g hK dk_0_expand_29 (pc' := 32) rfl ?_
      obtain ⟨q4, hq, hf⟩ := bnd hf
      refine v_callV_v (As := []) (rest := []) (S1 := q4) g hK hA (c_CPairs_clear hq) (kcC_X_210 g.2.2.2.2 rfl rfl (Nat.le_of_ble_eq_true rfl) (Nat.le_of_ble_eq_true rfl)) (ci := 5) (q0 := 31) rfl rfl rfl rfl rfl (Nat.le_of_ble_eq_true rfl) dk_0_expand_32 (Nat.zero_le _) (Nat.zero_le _) (pc' := 35) rfl ?_
      refine v_aload_n g dk_0_expand_35 0 rfl rfl (pc' := 36) rfl ?_
      refine v_iload_n g dk_0_expand_36 1 rfl rfl (pc' := 37) rfl ?_
      refine v_aload_n g dk_0_expand_37 0 rfl rfl (pc' := 38) rfl ?_
      refine gfC_X_26 g hK dk_0_expand_38 (pc' := 41) rfl ?_
      refine gfC_X_165 g hK dk_0_expand_41 (pc' := 44) rfl ?_
      refine v_iload_n g dk_0_expand_44 2 rfl rfl (pc' := 45) rfl ?_
      obtain ⟨hb5, hf⟩ := grd hf
      refine alC_8 g hK hb5 dk_0_expand_45 (pc' := 46) rfl ?_
      obtain ⟨q6, hq, hf⟩ := bnd hf
      refine v_callV_i (As := [.int x1, .long (gB q4 0 x2.toNatClampNeg)]) (rest := []) (r := q6.1) (S1 := q6.2) g hK hA (c_CX_findPairs hq) (kcC_X_213 g.2.2.2.2 rfl rfl (Nat.le_of_ble_eq_true rfl) (Nat.le_of_ble_eq_true rfl)) (ci := 0) (q0 := 0) rfl rfl rfl rfl rfl (Nat.le_of_ble_eq_true rfl) dk_0_expand_46 (Nat.zero_le _) (Nat.zero_le _) (pc' := 49) rfl ?_
      refine v_if_ne (tgt := 62) (pc' := 52) g dk_0_expand_49 (by decide) rfl (fun hc => ?_) (fun hc => ?_)
      · replace hf := ifF hc hf
        refine v_aload_n g dk_0_expand_62 0 rfl rfl (pc' := 63) rfl ?_
        obtain ⟨q7, hq, hf⟩ := bnd hf
        refine v_callV_v (As := []) (rest := []) (S1 := q7) g hK hA (c_CX_leaveOutByWants hq) (kcC_X_216 g.2.2.2.2 rfl rfl (Nat.le_of_ble_eq_true rfl) (Nat.le_of_ble_eq_true rfl)) (ci := 0) (q0 := 0) rfl rfl rfl rfl rfl (Nat.le_of_ble_eq_true rfl) dk_0_expand_63 (Nat.zero_le _) (Nat.zero_le _) (pc' := 66) rfl ?_
        refine v_aload_n g dk_0_expand_66 0 rfl rfl (pc' := 67) rfl ?_
        refine gfC_X_61 g hK dk_0_expand_67 (pc' := 70) rfl ?_
        obtain ⟨q8, hq, hf⟩ := bnd hf
        refine v_callV_v (As := []) (rest := []) (S1 := q8) g hK hA (c_CPairs_leaveOutByNeeds hq) (kcC_X_219 g.2.2.2.2 rfl rfl (Nat.le_of_ble_eq_true rfl) (Nat.le_of_ble_eq_true rfl)) (ci := 5) (q0 := 31) rfl rfl rfl rfl rfl (Nat.le_of_ble_eq_true rfl) dk_0_expand_70 (Nat.zero_le _) (Nat.zero_le _) (pc' := 73) rfl ?_
        refine v_aload_n g dk_0_expand_73 0 rfl rfl (pc' := 74) rfl ?_
        refine gfC_X_61 g hK dk_0_expand_74 (pc' := 77) rfl ?_
        refine gfC_X_222 g hK dk_0_expand_77 (pc' := 80) rfl ?_
        exact v_iret g hr hlk hK  (Option.some.inj hf) dk_0_expand_80
      · replace hf := ifT hc hf
        refine v_aload_n g dk_0_expand_52 0 rfl rfl (pc' := 53) rfl ?_
        refine gfC_X_61 g hK dk_0_expand_53 (pc' := 56) rfl ?_
        obtain ⟨q9, hq, hf⟩ := bnd hf
        refine v_callV_v (As := []) (rest := []) (S1 := q9) g hK hA (c_CPairs_clear hq) (kcC_X_210 g.2.2.2.2 rfl rfl (Nat.le_of_ble_eq_true rfl) (Nat.le_of_ble_eq_true rfl)) (ci := 5) (q0 := 31) rfl rfl rfl rfl rfl (Nat.le_of_ble_eq_true rfl) dk_0_expand_56 (Nat.zero_le _) (Nat.zero_le _) (pc' := 59) rfl ?_
        refine v_bipush (v := (-2)) g dk_0_expand_59 (by decide) (pc' := 61) rfl ?_
        exact v_iret g hr hlk hK  (Option.some.inj hf) dk_0_expand_61
    · replace hf := ifT hc hf
      refine v_iconst (v := (-1)) g dk_0_expand_22 (by decide) (pc' := 23) rfl ?_
      exact v_iret g hr hlk hK  (Option.some.inj hf) dk_0_expand_23
abbrev rm_CPairs_isThere : Room := { frames := 0, cells := 0, slots := 0, locals := 0 }
def m_CPairs_isThere (S : StC) (x1 : Int32) : Option Int32 :=
  if x1 < 0 then some 0
    else if (gI S 7) ≤ x1 then some 0
    else some 1
set_option maxHeartbeats 4000000 in
set_option maxRecDepth 100000 in
theorem c_CPairs_isThere {l : Launch} {D : va_G} {ad : Nat → Nat} {ca : Nat → ClassId} {S : StC} {x1 : Int32} {r : Int32} (hf : m_CPairs_isThere S x1 = some r) : KIC l D ad ca yk_8_isThere (.code yk_8_isThere bk_8_isThere 2 (some .boolean) :: tb) rm_CPairs_isThere [.ref (ad 31), .int x1] S (r, S) := by
  refine met_z (by decide) (Nat.le_of_ble_eq_true rfl) (fun p e s m below meth c A g hr hlk hK hA => ?_)
  replace g : CallFix p m c bk_8_isThere 2 s _ tb Rk_8 := g
  refine v_lv (lv' := [(0, .ref (ad 31)), (1, .int x1)]) rfl ?_
  unfold m_CPairs_isThere at hf
  refine v_iload_n g dk_8_isThere_0 1 rfl rfl (pc' := 1) rfl ?_
  refine v_if_lt (tgt := 16) (pc' := 4) g dk_8_isThere_1 (by decide) rfl (fun hc => ?_) (fun hc => ?_)
  · replace hf := ifT hc hf
    refine v_iconst (v := 0) g dk_8_isThere_16 (by decide) (pc' := 17) rfl ?_
    exact v_zret g hr hlk hK rfl (pinj hf) dk_8_isThere_17
  · replace hf := ifF hc hf
    refine v_iload_n g dk_8_isThere_4 1 rfl rfl (pc' := 5) rfl ?_
    refine v_aload_n g dk_8_isThere_5 0 rfl rfl (pc' := 6) rfl ?_
    refine gfC_Pairs_25 g hK dk_8_isThere_6 (pc' := 9) rfl ?_
    refine v_icmp_ge (tgt := 16) (pc' := 12) g dk_8_isThere_9 (by decide) rfl (fun hc => ?_) (fun hc => ?_)
    · replace hf := ifT hc hf
      refine v_iconst (v := 0) g dk_8_isThere_16 (by decide) (pc' := 17) rfl ?_
      exact v_zret g hr hlk hK rfl (pinj hf) dk_8_isThere_17
    · replace hf := ifF hc hf
      refine v_iconst (v := 1) g dk_8_isThere_12 (by decide) (pc' := 13) rfl ?_
      refine v_goto (tgt := 17) g dk_8_isThere_13 (by decide) ?_
      exact v_zret g hr hlk hK rfl (pinj hf) dk_8_isThere_17
abbrev rm_CX_pair : Room := { frames := 1, cells := 0, slots := 0, locals := 21 }
def m_CX_pair (S : StC) (x1 : Int32) (x2 : Int32) : Option Int32 :=
  (m_CPairs_isThere S x1).bind fun q1 =>
    if q1 = 0 then some (-1)
    else if x2 = 0 then if inb x1 60 = true then some (gA S 21 x1.toNatClampNeg) else none
    else if x2 = 1 then if inb x1 60 = true then some (gA S 22 x1.toNatClampNeg) else none
    else if x2 = 2 then if inb x1 60 = true then some (gA S 23 x1.toNatClampNeg) else none
    else some (-1)
set_option maxHeartbeats 4000000 in
set_option maxRecDepth 100000 in
theorem c_CX_pair {l : Launch} {D : va_G} {ad : Nat → Nat} {ca : Nat → ClassId} {S : StC} {x1 : Int32} {x2 : Int32} {r : Int32} (hf : m_CX_pair S x1 x2 = some r) : KIC l D ad ca yk_0_pair (.code yk_0_pair bk_0_pair 3 (some .int) :: tb) rm_CX_pair [.ref (ad 0), .int x1, .int x2] S (r, S) := by
  refine met_i (by decide) (Nat.le_of_ble_eq_true rfl) (fun p e s m below meth c A g hr hlk hK hA => ?_)
  replace g : CallFix p m c bk_0_pair 3 s _ tb Rk_0 := g
  refine v_lv (lv' := [(0, .ref (ad 0)), (1, .int x1), (2, .int x2)]) rfl ?_
  unfold m_CX_pair at hf
  refine v_aload_n g dk_0_pair_0 0 rfl rfl (pc' := 1) rfl ?_
  refine gfC_X_61 g hK dk_0_pair_1 (pc' := 4) rfl ?_
  refine v_iload_n g dk_0_pair_4 1 rfl rfl (pc' := 5) rfl ?_
  obtain ⟨q1, hq, hf⟩ := bnd hf
  refine v_callV_i (As := [.int x1]) (rest := []) (r := q1) (S1 := S) g hK hA (c_CPairs_isThere hq) (kcC_X_226 g.2.2.2.2 rfl rfl (Nat.le_of_ble_eq_true rfl) (Nat.le_of_ble_eq_true rfl)) (ci := 5) (q0 := 31) rfl rfl rfl rfl rfl (Nat.le_of_ble_eq_true rfl) dk_0_pair_5 (Nat.zero_le _) (Nat.zero_le _) (pc' := 8) rfl ?_
  refine v_if_ne (tgt := 13) (pc' := 11) g dk_0_pair_8 (by decide) rfl (fun hc => ?_) (fun hc => ?_)
  · replace hf := ifF hc hf
    refine v_iload_n g dk_0_pair_13 2 rfl rfl (pc' := 14) rfl ?_
    by_cases hc0 : x2 = 0
    · replace hf := ifT hc0 hf
      refine v_tableIn (off := 26) (tgt := 40) g dk_0_pair_14 (by rw [hc0]; decide) (by rw [hc0]; decide) (by rw [hc0]; rfl) (by decide) ?_
      refine v_aload_n g dk_0_pair_40 0 rfl rfl (pc' := 41) rfl ?_
      refine gfC_X_61 g hK dk_0_pair_41 (pc' := 44) rfl ?_
      refine gfC_X_227 g hK dk_0_pair_44 (pc' := 47) rfl ?_
      refine v_iload_n g dk_0_pair_47 1 rfl rfl (pc' := 48) rfl ?_
      obtain ⟨hb2, hf⟩ := grd hf
      refine alC_32 g hK hb2 dk_0_pair_48 (pc' := 49) rfl ?_
      exact v_iret g hr hlk hK  (pinj hf) dk_0_pair_49
    replace hf := ifF hc0 hf
    by_cases hc1 : x2 = 1
    · replace hf := ifT hc1 hf
      refine v_tableIn (off := 36) (tgt := 50) g dk_0_pair_14 (by rw [hc1]; decide) (by rw [hc1]; decide) (by rw [hc1]; rfl) (by decide) ?_
      refine v_aload_n g dk_0_pair_50 0 rfl rfl (pc' := 51) rfl ?_
      refine gfC_X_61 g hK dk_0_pair_51 (pc' := 54) rfl ?_
      refine gfC_X_230 g hK dk_0_pair_54 (pc' := 57) rfl ?_
      refine v_iload_n g dk_0_pair_57 1 rfl rfl (pc' := 58) rfl ?_
      obtain ⟨hb3, hf⟩ := grd hf
      refine alC_33 g hK hb3 dk_0_pair_58 (pc' := 59) rfl ?_
      exact v_iret g hr hlk hK  (pinj hf) dk_0_pair_59
    replace hf := ifF hc1 hf
    by_cases hc2 : x2 = 2
    · replace hf := ifT hc2 hf
      refine v_tableIn (off := 46) (tgt := 60) g dk_0_pair_14 (by rw [hc2]; decide) (by rw [hc2]; decide) (by rw [hc2]; rfl) (by decide) ?_
      refine v_aload_n g dk_0_pair_60 0 rfl rfl (pc' := 61) rfl ?_
      refine gfC_X_61 g hK dk_0_pair_61 (pc' := 64) rfl ?_
      refine gfC_X_233 g hK dk_0_pair_64 (pc' := 67) rfl ?_
      refine v_iload_n g dk_0_pair_67 1 rfl rfl (pc' := 68) rfl ?_
      obtain ⟨hb4, hf⟩ := grd hf
      refine alC_34 g hK hb4 dk_0_pair_68 (pc' := 69) rfl ?_
      exact v_iret g hr hlk hK  (pinj hf) dk_0_pair_69
    replace hf := ifF hc2 hf
    refine v_tableOut (tgt := 70) g dk_0_pair_14 (tsOut3 hc0 hc1 hc2) (by decide) ?_
    refine v_iconst (v := (-1)) g dk_0_pair_70 (by decide) (pc' := 71) rfl ?_
    exact v_iret g hr hlk hK  (pinj hf) dk_0_pair_71
  · replace hf := ifT hc hf
    refine v_iconst (v := (-1)) g dk_0_pair_11 (by decide) (pc' := 12) rfl ?_
    exact v_iret g hr hlk hK  (pinj hf) dk_0_pair_12
