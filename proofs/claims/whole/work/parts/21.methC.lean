abbrev rm_CX_holds : Room := { frames := 4, cells := 0, slots := 0, locals := 94 }
def m_CX_holds (S : StC) (x1 : Int32) (x2 : Int32) : Option Int32 :=
  (m_CConditions_isThere S x1).bind fun q1 =>
    if q1 = 0 then some 0
    else (m_CConfigurations_isThere S x2).bind fun q2 =>
    if q2 = 0 then some 0
    else if inb x2 60 = true then (m_CX_isMet S x1 (gB S 0 x2.toNatClampNeg)).bind fun q4 =>
    if isB q4 = true then some q4 else none else none
set_option maxHeartbeats 4000000 in
set_option maxRecDepth 100000 in
theorem c_CX_holds {l : Launch} {D : va_G} {ad : Nat → Nat} {ca : Nat → ClassId} {S : StC} {x1 : Int32} {x2 : Int32} {r : Int32} (hf : m_CX_holds S x1 x2 = some r) : KIC l D ad ca yk_0_holds (.code yk_0_holds bk_0_holds 3 (some .boolean) :: tb) rm_CX_holds [.ref (ad 0), .int x1, .int x2] S (r, S) := by
  refine met_z (by decide) (Nat.le_of_ble_eq_true rfl) (fun p e s m below meth c A g hr hlk hK hA => ?_)
  replace g : CallFix p m c bk_0_holds 3 s _ tb Rk_0 := g
  refine v_lv (lv' := [(0, .ref (ad 0)), (1, .int x1), (2, .int x2)]) rfl ?_
  unfold m_CX_holds at hf
  refine v_aload_n g dk_0_holds_0 0 rfl rfl (pc' := 1) rfl ?_
  refine gfC_X_33 g hK dk_0_holds_1 (pc' := 4) rfl ?_
  refine v_iload_n g dk_0_holds_4 1 rfl rfl (pc' := 5) rfl ?_
  obtain ⟨q1, hq, hf⟩ := bnd hf
  refine v_callV_i (As := [.int x1]) (rest := []) (r := q1) (S1 := S) g hK hA (c_CConditions_isThere hq) (kcC_X_108 g.2.2.2.2 rfl rfl (Nat.le_of_ble_eq_true rfl) (Nat.le_of_ble_eq_true rfl)) (ci := 2) (q0 := 9) rfl rfl rfl rfl rfl (Nat.le_of_ble_eq_true rfl) dk_0_holds_5 (Nat.zero_le _) (Nat.zero_le _) (pc' := 8) rfl ?_
  refine v_if_eq (tgt := 22) (pc' := 11) g dk_0_holds_8 (by decide) rfl (fun hc => ?_) (fun hc => ?_)
  · replace hf := ifT hc hf
    refine v_iconst (v := 0) g dk_0_holds_22 (by decide) (pc' := 23) rfl ?_
    exact v_zret g hr hlk hK rfl (pinj hf) dk_0_holds_23
  · replace hf := ifF hc hf
    refine v_aload_n g dk_0_holds_11 0 rfl rfl (pc' := 12) rfl ?_
    refine gfC_X_26 g hK dk_0_holds_12 (pc' := 15) rfl ?_
    refine v_iload_n g dk_0_holds_15 2 rfl rfl (pc' := 16) rfl ?_
    obtain ⟨q2, hq, hf⟩ := bnd hf
    refine v_callV_i (As := [.int x2]) (rest := []) (r := q2) (S1 := S) g hK hA (c_CConfigurations_isThere hq) (kcC_X_161 g.2.2.2.2 rfl rfl (Nat.le_of_ble_eq_true rfl) (Nat.le_of_ble_eq_true rfl)) (ci := 3) (q0 := 7) rfl rfl rfl rfl rfl (Nat.le_of_ble_eq_true rfl) dk_0_holds_16 (Nat.zero_le _) (Nat.zero_le _) (pc' := 19) rfl ?_
    refine v_if_ne (tgt := 24) (pc' := 22) g dk_0_holds_19 (by decide) rfl (fun hc => ?_) (fun hc => ?_)
    · replace hf := ifF hc hf
      refine v_aload_n g dk_0_holds_24 0 rfl rfl (pc' := 25) rfl ?_
      refine v_iload_n g dk_0_holds_25 1 rfl rfl (pc' := 26) rfl ?_
      refine v_aload_n g dk_0_holds_26 0 rfl rfl (pc' := 27) rfl ?_
      refine gfC_X_26 g hK dk_0_holds_27 (pc' := 30) rfl ?_
      refine gfC_X_165 g hK dk_0_holds_30 (pc' := 33) rfl ?_
      refine v_iload_n g dk_0_holds_33 2 rfl rfl (pc' := 34) rfl ?_
      obtain ⟨hb3, hf⟩ := grd hf
      refine alC_8 g hK hb3 dk_0_holds_34 (pc' := 35) rfl ?_
      obtain ⟨q4, hq, hf⟩ := bnd hf
      refine v_callV_i (As := [.int x1, .long (gB S 0 x2.toNatClampNeg)]) (rest := []) (r := q4) (S1 := S) g hK hA (c_CX_isMet hq) (kcC_X_176 g.2.2.2.2 rfl rfl (Nat.le_of_ble_eq_true rfl) (Nat.le_of_ble_eq_true rfl)) (ci := 0) (q0 := 0) rfl rfl rfl rfl rfl (Nat.le_of_ble_eq_true rfl) dk_0_holds_35 (Nat.zero_le _) (Nat.zero_le _) (pc' := 38) rfl ?_
      obtain ⟨hz, hf⟩ := grd hf
      exact v_zret g hr hlk hK hz (pinj hf) dk_0_holds_38
    · replace hf := ifT hc hf
      refine v_iconst (v := 0) g dk_0_holds_22 (by decide) (pc' := 23) rfl ?_
      exact v_zret g hr hlk hK rfl (pinj hf) dk_0_holds_23
abbrev rm_CSelects_conditionAt : Room := { frames := 1, cells := 0, slots := 0, locals := 21 }
def m_CSelects_conditionAt (S : StC) (x1 : Int32) (x2 : Int32) : Option Int32 :=
  (m_CSelects_place S x1 x2).bind fun q1 =>
    if inb q1 192 = true then some (gA S 13 q1.toNatClampNeg) else none
set_option maxHeartbeats 4000000 in
set_option maxRecDepth 100000 in
theorem c_CSelects_conditionAt {l : Launch} {D : va_G} {ad : Nat → Nat} {ca : Nat → ClassId} {S : StC} {x1 : Int32} {x2 : Int32} {r : Int32} (hf : m_CSelects_conditionAt S x1 x2 = some r) : KIC l D ad ca yk_10_conditionAt (.code yk_10_conditionAt bk_10_conditionAt 3 (some .int) :: tb) rm_CSelects_conditionAt [.ref (ad 16), .int x1, .int x2] S (r, S) := by
  refine met_i (by decide) (Nat.le_of_ble_eq_true rfl) (fun p e s m below meth c A g hr hlk hK hA => ?_)
  replace g : CallFix p m c bk_10_conditionAt 3 s _ tb Rk_10 := g
  refine v_lv (lv' := [(0, .ref (ad 16)), (1, .int x1), (2, .int x2)]) rfl ?_
  unfold m_CSelects_conditionAt at hf
  refine v_aload_n g dk_10_conditionAt_0 0 rfl rfl (pc' := 1) rfl ?_
  refine gfC_Selects_29 g hK dk_10_conditionAt_1 (pc' := 4) rfl ?_
  refine v_iload_n g dk_10_conditionAt_4 1 rfl rfl (pc' := 5) rfl ?_
  refine v_iload_n g dk_10_conditionAt_5 2 rfl rfl (pc' := 6) rfl ?_
  obtain ⟨q1, hq, hf⟩ := bnd hf
  refine v_callS_i (As := [.int x1, .int x2]) (rest := [.ref (ad 22)]) (r := q1) (S1 := S) g hK hA (c_CSelects_place hq) (kcC_Selects_48 g.2.2.2.2 rfl rfl (Nat.le_of_ble_eq_true rfl) (Nat.le_of_ble_eq_true rfl)) rfl rfl (Nat.le_of_ble_eq_true rfl) dk_10_conditionAt_6 (Nat.zero_le _) (Nat.zero_le _) (pc' := 9) rfl ?_
  obtain ⟨hb2, hf⟩ := grd hf
  refine alC_22 g hK hb2 dk_10_conditionAt_9 (pc' := 10) rfl ?_
  exact v_iret g hr hlk hK  (pinj hf) dk_10_conditionAt_10
abbrev rm_CX_holdingBranches : Room := { frames := 4, cells := 0, slots := 0, locals := 94 }
def L_CX_holdingBranches_6 (S : StC) (x1 : Int32) (x2 : Int64) : Nat → Int32 → Int32 → Option (Int32)
  | 0, _, _ => none
  | n + 1, x4, x5 =>
    if inb x1 24 = true then if (gA S 12 x1.toNatClampNeg) ≤ x5 then some x4
    else (m_CSelects_conditionAt S x1 x5).bind fun q2 =>
    (m_CX_isMet S q2 x2).bind fun q3 =>
    if q3 = 0 then L_CX_holdingBranches_6 S x1 x2 n x4 (x5 + 1)
    else L_CX_holdingBranches_6 S x1 x2 n (x4 ||| ((1 : Int32) <<< (x5 &&& 31))) (x5 + 1) else none
set_option maxHeartbeats 4000000 in
set_option maxRecDepth 100000 in
theorem w_CX_holdingBranches_6 {p : Program} {l : Launch} {e : Env} {s : State} {m : MethodId} {args : Array Value} {below : List Frame} {meth : Method} {c : Code} {A : Nat → Prop} {D : va_G} {ad : Nat → Nat} {ca : Nat → ClassId} {Rm : Int32 × StC} {S : StC} {x1 : Int32} {x2 : Int64} (g : CallFix p m c bk_0_holdingBranches 6 s args tb Rk_0) (hr : meth.sig.returnType = some .int) (hlk : meth.locks = false) (hK : va_K D vwCl (tyC ca) s) (hA : ∀ q, s.heap.size ≤ q → A q) : ∀ (n : Nat) (x4 : Int32) (x5 : Int32) (o : Int32), L_CX_holdingBranches_6 S x1 x2 n x4 x5 = some o → (Vj p l e rm_CX_holdingBranches s m args below meth c (MQ below (qI D vwCl (tyC ca) (wdC ad ca) A Rm) args s 0 0 A) D vwCl A 6 0 0 (wdC ad ca S) 53 [(4, .int o)] []) → Vj p l e rm_CX_holdingBranches s m args below meth c (MQ below (qI D vwCl (tyC ca) (wdC ad ca) A Rm) args s 0 0 A) D vwCl A 6 0 0 (wdC ad ca S) 6 [(0, .ref (ad 0)), (1, .int x1), (2, .long x2), (4, .int x4), (5, .int x5)] [] := by
  intro n
  induction n with
  | zero => intro x4 x5 o hf; exact nomatch (show none = some o from hf)
  | succ n ih =>
    intro x4 x5 o hf hx
    rw [L_CX_holdingBranches_6] at hf
    refine v_iload g dk_0_holdingBranches_6 4 rfl (pc' := 8) rfl ?_
    refine v_aload_n g dk_0_holdingBranches_8 0 rfl rfl (pc' := 9) rfl ?_
    refine gfC_X_47 g hK dk_0_holdingBranches_9 (pc' := 12) rfl ?_
    refine gfC_X_266 g hK dk_0_holdingBranches_12 (pc' := 15) rfl ?_
    refine v_iload_n g dk_0_holdingBranches_15 1 rfl rfl (pc' := 16) rfl ?_
    obtain ⟨hb1, hf⟩ := grd hf
    refine alC_21 g hK hb1 dk_0_holdingBranches_16 (pc' := 17) rfl ?_
    refine v_icmp_ge (tgt := 53) (pc' := 20) g dk_0_holdingBranches_17 (by decide) rfl (fun hc => ?_) (fun hc => ?_)
    · replace hf := ifT hc hf
      refine v_sub [3] rfl ?_
      have e9 := Option.some.inj hf
      subst e9
      exact hx
    · replace hf := ifF hc hf
      refine v_aload_n g dk_0_holdingBranches_20 0 rfl rfl (pc' := 21) rfl ?_
      refine v_aload_n g dk_0_holdingBranches_21 0 rfl rfl (pc' := 22) rfl ?_
      refine gfC_X_47 g hK dk_0_holdingBranches_22 (pc' := 25) rfl ?_
      refine v_iload_n g dk_0_holdingBranches_25 1 rfl rfl (pc' := 26) rfl ?_
      refine v_iload g dk_0_holdingBranches_26 4 rfl (pc' := 28) rfl ?_
      obtain ⟨q2, hq, hf⟩ := bnd hf
      refine v_callV_i (As := [.int x1, .int x5]) (rest := [.ref (ad 0)]) (r := q2) (S1 := S) g hK hA (c_CSelects_conditionAt hq) (kcC_X_292 g.2.2.2.2 rfl rfl (Nat.le_of_ble_eq_true rfl) (Nat.le_of_ble_eq_true rfl)) (ci := 7) (q0 := 16) rfl rfl rfl rfl rfl (Nat.le_of_ble_eq_true rfl) dk_0_holdingBranches_28 (Nat.zero_le _) (Nat.zero_le _) (pc' := 31) rfl ?_
      refine v_lload_n g dk_0_holdingBranches_31 2 rfl rfl (pc' := 32) rfl ?_
      obtain ⟨q3, hq, hf⟩ := bnd hf
      refine v_callV_i (As := [.int q2, .long x2]) (rest := []) (r := q3) (S1 := S) g hK hA (c_CX_isMet hq) (kcC_X_176 g.2.2.2.2 rfl rfl (Nat.le_of_ble_eq_true rfl) (Nat.le_of_ble_eq_true rfl)) (ci := 0) (q0 := 0) rfl rfl rfl rfl rfl (Nat.le_of_ble_eq_true rfl) dk_0_holdingBranches_32 (Nat.zero_le _) (Nat.zero_le _) (pc' := 35) rfl ?_
      refine v_if_eq (tgt := 47) (pc' := 38) g dk_0_holdingBranches_35 (by decide) rfl (fun hc => ?_) (fun hc => ?_)
      · replace hf := ifT hc hf
        refine v_iinc (j := 4) (v := x5 + 1) (lv' := [(5, .int (x5 + 1)), (0, .ref (ad 0)), (1, .int x1), (2, .long x2), (4, .int x4)]) g dk_0_holdingBranches_47 rfl rfl (by decide) rfl (pc' := 50) rfl ?_
        refine v_goto (tgt := 6) g dk_0_holdingBranches_50 (by decide) ?_
        refine v_sub [1, 2, 3, 4, 0] rfl ?_
        exact ih x4 (x5 + 1) o hf hx
      · replace hf := ifF hc hf
        refine v_iload g dk_0_holdingBranches_38 3 rfl (pc' := 40) rfl ?_
        refine v_iconst (v := 1) g dk_0_holdingBranches_40 (by decide) (pc' := 41) rfl ?_
        refine v_iload g dk_0_holdingBranches_41 4 rfl (pc' := 43) rfl ?_
        refine v_ishl g dk_0_holdingBranches_43 (pc' := 44) rfl ?_
        refine v_ior g dk_0_holdingBranches_44 (pc' := 45) rfl ?_
        refine v_istore (lv' := [(4, .int (x4 ||| ((1 : Int32) <<< (x5 &&& 31)))), (0, .ref (ad 0)), (1, .int x1), (2, .long x2), (5, .int x5)]) g dk_0_holdingBranches_45 (by decide) rfl (pc' := 47) rfl ?_
        refine v_iinc (j := 4) (v := x5 + 1) (lv' := [(5, .int (x5 + 1)), (4, .int (x4 ||| ((1 : Int32) <<< (x5 &&& 31)))), (0, .ref (ad 0)), (1, .int x1), (2, .long x2)]) g dk_0_holdingBranches_47 rfl rfl (by decide) rfl (pc' := 50) rfl ?_
        refine v_goto (tgt := 6) g dk_0_holdingBranches_50 (by decide) ?_
        refine v_sub [2, 3, 4, 1, 0] rfl ?_
        exact ih (x4 ||| ((1 : Int32) <<< (x5 &&& 31))) (x5 + 1) o hf hx
def m_CX_holdingBranches (S : StC) (x1 : Int32) (x2 : Int64) : Option Int32 :=
  (L_CX_holdingBranches_6 S x1 x2 100 0 0).bind fun y5 =>
    some y5
set_option maxHeartbeats 4000000 in
set_option maxRecDepth 100000 in
theorem c_CX_holdingBranches {l : Launch} {D : va_G} {ad : Nat → Nat} {ca : Nat → ClassId} {S : StC} {x1 : Int32} {x2 : Int64} {r : Int32} (hf : m_CX_holdingBranches S x1 x2 = some r) : KIC l D ad ca yk_0_holdingBranches (.code yk_0_holdingBranches bk_0_holdingBranches 6 (some .int) :: tb) rm_CX_holdingBranches [.ref (ad 0), .int x1, .long x2] S (r, S) := by
  refine met_i (by decide) (Nat.le_of_ble_eq_true rfl) (fun p e s m below meth c A g hr hlk hK hA => ?_)
  replace g : CallFix p m c bk_0_holdingBranches 6 s _ tb Rk_0 := g
  refine v_lv (lv' := [(0, .ref (ad 0)), (1, .int x1), (2, .long x2)]) rfl ?_
  unfold m_CX_holdingBranches at hf
  refine v_iconst (v := 0) g dk_0_holdingBranches_0 (by decide) (pc' := 1) rfl ?_
  refine v_istore (lv' := [(4, .int 0), (0, .ref (ad 0)), (1, .int x1), (2, .long x2)]) g dk_0_holdingBranches_1 (by decide) rfl (pc' := 3) rfl ?_
  refine v_iconst (v := 0) g dk_0_holdingBranches_3 (by decide) (pc' := 4) rfl ?_
  refine v_istore (lv' := [(5, .int 0), (4, .int 0), (0, .ref (ad 0)), (1, .int x1), (2, .long x2)]) g dk_0_holdingBranches_4 (by decide) rfl (pc' := 6) rfl ?_
  refine v_sub [2, 3, 4, 1, 0] rfl ?_
  obtain ⟨y5, hL, hf⟩ := bnd hf
  refine w_CX_holdingBranches_6 g hr hlk hK hA 100 0 0 _ hL ?_
  refine v_iload g dk_0_holdingBranches_53 0 rfl (pc' := 55) rfl ?_
  exact v_iret g hr hlk hK  (pinj hf) dk_0_holdingBranches_55
abbrev rm_CX_askedBy : Room := { frames := 2, cells := 0, slots := 0, locals := 44 }
def L_CX_askedBy_4 (S : StC) (x1 : Int32) : Nat → Int32 → Int32 → Option (Int32)
  | 0, _, _ => none
  | n + 1, x2, x3 =>
    if inb x1 40 = true then if (gA S 4 x1.toNatClampNeg) ≤ x3 then some x2
    else (m_CConditions_askingAt S x1 x3).bind fun q2 =>
    (m_CAskings_whichOf S q2).bind fun q3 =>
    (m_CAskings_isAboutAxis S q2).bind fun q4 =>
    if q4 = 0 then (m_CSettings_baseOf S q3).bind fun q5 =>
    if q5 = (-1) then L_CX_askedBy_4 S x1 n (x2 ||| (0 : Int32)) (x3 + 1)
    else L_CX_askedBy_4 S x1 n (x2 ||| ((1 : Int32) <<< (q5 &&& 31))) (x3 + 1)
    else L_CX_askedBy_4 S x1 n (x2 ||| ((1 : Int32) <<< (((16 : Int32) + q3) &&& 31))) (x3 + 1) else none
set_option maxHeartbeats 4000000 in
set_option maxRecDepth 100000 in
theorem w_CX_askedBy_4 {p : Program} {l : Launch} {e : Env} {s : State} {m : MethodId} {args : Array Value} {below : List Frame} {meth : Method} {c : Code} {A : Nat → Prop} {D : va_G} {ad : Nat → Nat} {ca : Nat → ClassId} {Rm : Int32 × StC} {S : StC} {x1 : Int32} (g : CallFix p m c bk_0_askedBy 7 s args tb Rk_0) (hr : meth.sig.returnType = some .int) (hlk : meth.locks = false) (hK : va_K D vwCl (tyC ca) s) (hA : ∀ q, s.heap.size ≤ q → A q) : ∀ (n : Nat) (x2 : Int32) (x3 : Int32) (o : Int32), L_CX_askedBy_4 S x1 n x2 x3 = some o → (Vj p l e rm_CX_askedBy s m args below meth c (MQ below (qI D vwCl (tyC ca) (wdC ad ca) A Rm) args s 0 0 A) D vwCl A 7 0 0 (wdC ad ca S) 90 [(2, .int o)] []) → Vj p l e rm_CX_askedBy s m args below meth c (MQ below (qI D vwCl (tyC ca) (wdC ad ca) A Rm) args s 0 0 A) D vwCl A 7 0 0 (wdC ad ca S) 4 [(0, .ref (ad 0)), (1, .int x1), (2, .int x2), (3, .int x3)] [] := by
  intro n
  induction n with
  | zero => intro x2 x3 o hf; exact nomatch (show none = some o from hf)
  | succ n ih =>
    intro x2 x3 o hf hx
    rw [L_CX_askedBy_4] at hf
    refine v_iload_n g dk_0_askedBy_4 3 rfl rfl (pc' := 5) rfl ?_
    refine v_aload_n g dk_0_askedBy_5 0 rfl rfl (pc' := 6) rfl ?_
    refine gfC_X_33 g hK dk_0_askedBy_6 (pc' := 9) rfl ?_
    refine gfC_X_236 g hK dk_0_askedBy_9 (pc' := 12) rfl ?_
    refine v_iload_n g dk_0_askedBy_12 1 rfl rfl (pc' := 13) rfl ?_
    obtain ⟨hb1, hf⟩ := grd hf
    refine alC_10 g hK hb1 dk_0_askedBy_13 (pc' := 14) rfl ?_
    refine v_icmp_ge (tgt := 90) (pc' := 17) g dk_0_askedBy_14 (by decide) rfl (fun hc => ?_) (fun hc => ?_)
    · replace hf := ifT hc hf
      refine v_sub [2] rfl ?_
      have e9 := Option.some.inj hf
      subst e9
      exact hx
    · replace hf := ifF hc hf
      refine v_aload_n g dk_0_askedBy_17 0 rfl rfl (pc' := 18) rfl ?_
      refine gfC_X_33 g hK dk_0_askedBy_18 (pc' := 21) rfl ?_
      refine v_iload_n g dk_0_askedBy_21 1 rfl rfl (pc' := 22) rfl ?_
      refine v_iload_n g dk_0_askedBy_22 3 rfl rfl (pc' := 23) rfl ?_
      obtain ⟨q2, hq, hf⟩ := bnd hf
      refine v_callV_i (As := [.int x1, .int x3]) (rest := []) (r := q2) (S1 := S) g hK hA (c_CConditions_askingAt hq) (kcC_X_239 g.2.2.2.2 rfl rfl (Nat.le_of_ble_eq_true rfl) (Nat.le_of_ble_eq_true rfl)) (ci := 2) (q0 := 9) rfl rfl rfl rfl rfl (Nat.le_of_ble_eq_true rfl) dk_0_askedBy_23 (Nat.zero_le _) (Nat.zero_le _) (pc' := 26) rfl ?_
      refine v_istore (lv' := [(4, .int q2), (0, .ref (ad 0)), (1, .int x1), (2, .int x2), (3, .int x3)]) g dk_0_askedBy_26 (by decide) rfl (pc' := 28) rfl ?_
      refine v_iload g dk_0_askedBy_28 0 rfl (pc' := 30) rfl ?_
      obtain ⟨q3, hq, hf⟩ := bnd hf
      refine v_callS_i (As := [.int q2]) (rest := []) (r := q3) (S1 := S) g hK hA (c_CAskings_whichOf hq) (kcC_X_245 g.2.2.2.2 rfl rfl (Nat.le_of_ble_eq_true rfl) (Nat.le_of_ble_eq_true rfl)) rfl rfl (Nat.le_of_ble_eq_true rfl) dk_0_askedBy_30 (Nat.zero_le _) (Nat.zero_le _) (pc' := 33) rfl ?_
      refine v_istore (lv' := [(5, .int q3), (4, .int q2), (0, .ref (ad 0)), (1, .int x1), (2, .int x2), (3, .int x3)]) g dk_0_askedBy_33 (by decide) rfl (pc' := 35) rfl ?_
      refine v_iload g dk_0_askedBy_35 1 rfl (pc' := 37) rfl ?_
      obtain ⟨q4, hq, hf⟩ := bnd hf
      refine v_callS_i (As := [.int q2]) (rest := []) (r := q4) (S1 := S) g hK hA (c_CAskings_isAboutAxis hq) (kcC_X_250 g.2.2.2.2 rfl rfl (Nat.le_of_ble_eq_true rfl) (Nat.le_of_ble_eq_true rfl)) rfl rfl (Nat.le_of_ble_eq_true rfl) dk_0_askedBy_37 (Nat.zero_le _) (Nat.zero_le _) (pc' := 40) rfl ?_
      refine v_if_eq (tgt := 56) (pc' := 43) g dk_0_askedBy_40 (by decide) rfl (fun hc => ?_) (fun hc => ?_)
      · replace hf := ifT hc hf
        refine v_aload_n g dk_0_askedBy_56 2 rfl rfl (pc' := 57) rfl ?_
        refine gfC_X_12 g hK dk_0_askedBy_57 (pc' := 60) rfl ?_
        refine v_iload g dk_0_askedBy_60 0 rfl (pc' := 62) rfl ?_
        obtain ⟨q5, hq, hf⟩ := bnd hf
        refine v_callV_i (As := [.int q3]) (rest := []) (r := q5) (S1 := S) g hK hA (c_CSettings_baseOf hq) (kcC_X_83 g.2.2.2.2 rfl rfl (Nat.le_of_ble_eq_true rfl) (Nat.le_of_ble_eq_true rfl)) (ci := 8) (q0 := 1) rfl rfl rfl rfl rfl (Nat.le_of_ble_eq_true rfl) dk_0_askedBy_62 (Nat.zero_le _) (Nat.zero_le _) (pc' := 65) rfl ?_
        refine v_istore (lv' := [(6, .int q5), (5, .int q3), (4, .int q2), (0, .ref (ad 0)), (1, .int x1), (2, .int x2), (3, .int x3)]) g dk_0_askedBy_65 (by decide) rfl (pc' := 67) rfl ?_
        refine v_iload_n g dk_0_askedBy_67 5 rfl rfl (pc' := 68) rfl ?_
        refine v_iload g dk_0_askedBy_68 0 rfl (pc' := 70) rfl ?_
        refine v_iconst (v := (-1)) g dk_0_askedBy_70 (by decide) (pc' := 71) rfl ?_
        refine v_icmp_ne (tgt := 78) (pc' := 74) g dk_0_askedBy_71 (by decide) rfl (fun hc => ?_) (fun hc => ?_)
        · replace hf := ifF hc hf
          refine v_iconst (v := 1) g dk_0_askedBy_78 (by decide) (pc' := 79) rfl ?_
          refine v_iload g dk_0_askedBy_79 0 rfl (pc' := 81) rfl ?_
          refine v_ishl g dk_0_askedBy_81 (pc' := 82) rfl ?_
          refine v_ior g dk_0_askedBy_82 (pc' := 83) rfl ?_
          refine v_istore_n (lv' := [(2, .int (x2 ||| ((1 : Int32) <<< (q5 &&& 31)))), (6, .int q5), (5, .int q3), (4, .int q2), (0, .ref (ad 0)), (1, .int x1), (3, .int x3)]) g dk_0_askedBy_83 rfl (by decide) rfl (pc' := 84) rfl ?_
          refine v_iinc (j := 6) (v := x3 + 1) (lv' := [(3, .int (x3 + 1)), (2, .int (x2 ||| ((1 : Int32) <<< (q5 &&& 31)))), (6, .int q5), (5, .int q3), (4, .int q2), (0, .ref (ad 0)), (1, .int x1)]) g dk_0_askedBy_84 rfl rfl (by decide) rfl (pc' := 87) rfl ?_
          refine v_goto (tgt := 4) g dk_0_askedBy_87 (by decide) ?_
          refine v_sub [5, 6, 1, 0] rfl ?_
          exact ih (x2 ||| ((1 : Int32) <<< (q5 &&& 31))) (x3 + 1) o hf hx
        · replace hf := ifT hc hf
          refine v_iconst (v := 0) g dk_0_askedBy_74 (by decide) (pc' := 75) rfl ?_
          refine v_goto (tgt := 82) g dk_0_askedBy_75 (by decide) ?_
          refine v_ior g dk_0_askedBy_82 (pc' := 83) rfl ?_
          refine v_istore_n (lv' := [(2, .int (x2 ||| (0 : Int32))), (6, .int q5), (5, .int q3), (4, .int q2), (0, .ref (ad 0)), (1, .int x1), (3, .int x3)]) g dk_0_askedBy_83 rfl (by decide) rfl (pc' := 84) rfl ?_
          refine v_iinc (j := 6) (v := x3 + 1) (lv' := [(3, .int (x3 + 1)), (2, .int (x2 ||| (0 : Int32))), (6, .int q5), (5, .int q3), (4, .int q2), (0, .ref (ad 0)), (1, .int x1)]) g dk_0_askedBy_84 rfl rfl (by decide) rfl (pc' := 87) rfl ?_
          refine v_goto (tgt := 4) g dk_0_askedBy_87 (by decide) ?_
          refine v_sub [5, 6, 1, 0] rfl ?_
          exact ih (x2 ||| (0 : Int32)) (x3 + 1) o hf hx
      · replace hf := ifF hc hf
        refine v_iload_n g dk_0_askedBy_43 4 rfl rfl (pc' := 44) rfl ?_
        refine v_iconst (v := 1) g dk_0_askedBy_44 (by decide) (pc' := 45) rfl ?_
        refine v_bipush (v := 16) g dk_0_askedBy_45 (by decide) (pc' := 47) rfl ?_
        refine v_iload g dk_0_askedBy_47 0 rfl (pc' := 49) rfl ?_
        refine v_iadd g dk_0_askedBy_49 (pc' := 50) rfl ?_
        refine v_ishl g dk_0_askedBy_50 (pc' := 51) rfl ?_
        refine v_ior g dk_0_askedBy_51 (pc' := 52) rfl ?_
        refine v_istore_n (lv' := [(2, .int (x2 ||| ((1 : Int32) <<< (((16 : Int32) + q3) &&& 31)))), (5, .int q3), (4, .int q2), (0, .ref (ad 0)), (1, .int x1), (3, .int x3)]) g dk_0_askedBy_52 rfl (by decide) rfl (pc' := 53) rfl ?_
        refine v_goto (tgt := 84) g dk_0_askedBy_53 (by decide) ?_
        refine v_iinc (j := 5) (v := x3 + 1) (lv' := [(3, .int (x3 + 1)), (2, .int (x2 ||| ((1 : Int32) <<< (((16 : Int32) + q3) &&& 31)))), (5, .int q3), (4, .int q2), (0, .ref (ad 0)), (1, .int x1)]) g dk_0_askedBy_84 rfl rfl (by decide) rfl (pc' := 87) rfl ?_
        refine v_goto (tgt := 4) g dk_0_askedBy_87 (by decide) ?_
        refine v_sub [4, 5, 1, 0] rfl ?_
        exact ih (x2 ||| ((1 : Int32) <<< (((16 : Int32) + q3) &&& 31))) (x3 + 1) o hf hx
def m_CX_askedBy (S : StC) (x1 : Int32) : Option Int32 :=
  (L_CX_askedBy_4 S x1 100 0 0).bind fun y7 =>
    some y7
set_option maxHeartbeats 4000000 in
set_option maxRecDepth 100000 in
theorem c_CX_askedBy {l : Launch} {D : va_G} {ad : Nat → Nat} {ca : Nat → ClassId} {S : StC} {x1 : Int32} {r : Int32} (hf : m_CX_askedBy S x1 = some r) : KIC l D ad ca yk_0_askedBy (.code yk_0_askedBy bk_0_askedBy 7 (some .int) :: tb) rm_CX_askedBy [.ref (ad 0), .int x1] S (r, S) := by
  refine met_i (by decide) (Nat.le_of_ble_eq_true rfl) (fun p e s m below meth c A g hr hlk hK hA => ?_)
  replace g : CallFix p m c bk_0_askedBy 7 s _ tb Rk_0 := g
  refine v_lv (lv' := [(0, .ref (ad 0)), (1, .int x1)]) rfl ?_
  unfold m_CX_askedBy at hf
  refine v_iconst (v := 0) g dk_0_askedBy_0 (by decide) (pc' := 1) rfl ?_
  refine v_istore_n (lv' := [(2, .int 0), (0, .ref (ad 0)), (1, .int x1)]) g dk_0_askedBy_1 rfl (by decide) rfl (pc' := 2) rfl ?_
  refine v_iconst (v := 0) g dk_0_askedBy_2 (by decide) (pc' := 3) rfl ?_
  refine v_istore_n (lv' := [(3, .int 0), (2, .int 0), (0, .ref (ad 0)), (1, .int x1)]) g dk_0_askedBy_3 rfl (by decide) rfl (pc' := 4) rfl ?_
  refine v_sub [2, 3, 1, 0] rfl ?_
  obtain ⟨y7, hL, hf⟩ := bnd hf
  refine w_CX_askedBy_4 g hr hlk hK hA 100 0 0 _ hL ?_
  refine v_iload_n g dk_0_askedBy_90 0 rfl rfl (pc' := 91) rfl ?_
  exact v_iret g hr hlk hK  (pinj hf) dk_0_askedBy_91
abbrev rm_CX_isOutdone : Room := { frames := 3, cells := 0, slots := 0, locals := 70 }
def L_CX_isOutdone_18 (S : StC) (x1 : Int32) (x3 : Int32) (x4 : Int32) : Nat → Int32 → Option (Unit ⊕ Int32)
  | 0, _ => none
  | n + 1, x5 =>
    if inb x1 24 = true then if (gA S 12 x1.toNatClampNeg) ≤ x5 then some (.inl ())
    else (m_CX_hasBit S x3 x5).bind fun q4 =>
    if q4 = 0 then L_CX_isOutdone_18 S x1 x3 x4 n (x5 + 1)
    else (m_CSelects_conditionAt S x1 x5).bind fun q5 =>
    (m_CX_askedBy S q5).bind fun q6 =>
    if q6 = x4 then L_CX_isOutdone_18 S x1 x3 x4 n (x5 + 1)
    else if (q6 &&& x4) = x4 then some (.inr 1)
    else L_CX_isOutdone_18 S x1 x3 x4 n (x5 + 1) else none
set_option maxHeartbeats 4000000 in
set_option maxRecDepth 100000 in
theorem w_CX_isOutdone_18 {p : Program} {l : Launch} {e : Env} {s : State} {m : MethodId} {args : Array Value} {below : List Frame} {meth : Method} {c : Code} {A : Nat → Prop} {D : va_G} {ad : Nat → Nat} {ca : Nat → ClassId} {Rm : Int32 × StC} {S : StC} {x1 : Int32} {x3 : Int32} {x4 : Int32} (g : CallFix p m c bk_0_isOutdone 7 s args tb Rk_0) (hr : meth.sig.returnType = some .boolean) (hlk : meth.locks = false) (hK : va_K D vwCl (tyC ca) s) (hA : ∀ q, s.heap.size ≤ q → A q) : ∀ (n : Nat) (x5 : Int32) (o : Unit ⊕ Int32), L_CX_isOutdone_18 S x1 x3 x4 n x5 = some o → (∀ y, o = .inl y → Vj p l e rm_CX_isOutdone s m args below meth c (MQ below (qI D vwCl (tyC ca) (wdC ad ca) A Rm) args s 0 0 A) D vwCl A 7 0 0 (wdC ad ca S) 82 [] []) → (∀ r, o = .inr r → (r, S) = Rm) → Vj p l e rm_CX_isOutdone s m args below meth c (MQ below (qI D vwCl (tyC ca) (wdC ad ca) A Rm) args s 0 0 A) D vwCl A 7 0 0 (wdC ad ca S) 18 [(0, .ref (ad 0)), (1, .int x1), (3, .int x3), (4, .int x4), (5, .int x5)] [] := by
  intro n
  induction n with
  | zero => intro x5 o hf; exact nomatch (show none = some o from hf)
  | succ n ih =>
    intro x5 o hf hx hret
    rw [L_CX_isOutdone_18] at hf
    refine v_iload g dk_0_isOutdone_18 4 rfl (pc' := 20) rfl ?_
    refine v_aload_n g dk_0_isOutdone_20 0 rfl rfl (pc' := 21) rfl ?_
    refine gfC_X_47 g hK dk_0_isOutdone_21 (pc' := 24) rfl ?_
    refine gfC_X_266 g hK dk_0_isOutdone_24 (pc' := 27) rfl ?_
    refine v_iload_n g dk_0_isOutdone_27 1 rfl rfl (pc' := 28) rfl ?_
    obtain ⟨hb3, hf⟩ := grd hf
    refine alC_21 g hK hb3 dk_0_isOutdone_28 (pc' := 29) rfl ?_
    refine v_icmp_ge (tgt := 82) (pc' := 32) g dk_0_isOutdone_29 (by decide) rfl (fun hc => ?_) (fun hc => ?_)
    · replace hf := ifT hc hf
      refine v_sub [] rfl ?_
      exact hx _ (Option.some.inj hf).symm
    · replace hf := ifF hc hf
      refine v_iload_n g dk_0_isOutdone_32 2 rfl rfl (pc' := 33) rfl ?_
      refine v_iload g dk_0_isOutdone_33 4 rfl (pc' := 35) rfl ?_
      obtain ⟨q4, hq, hf⟩ := bnd hf
      refine v_callS_i (As := [.int x3, .int x5]) (rest := []) (r := q4) (S1 := S) g hK hA (c_CX_hasBit hq) (kcC_X_269 g.2.2.2.2 rfl rfl (Nat.le_of_ble_eq_true rfl) (Nat.le_of_ble_eq_true rfl)) rfl rfl (Nat.le_of_ble_eq_true rfl) dk_0_isOutdone_35 (Nat.zero_le _) (Nat.zero_le _) (pc' := 38) rfl ?_
      refine v_if_eq (tgt := 76) (pc' := 41) g dk_0_isOutdone_38 (by decide) rfl (fun hc => ?_) (fun hc => ?_)
      · replace hf := ifT hc hf
        refine v_iinc (j := 4) (v := x5 + 1) (lv' := [(5, .int (x5 + 1)), (0, .ref (ad 0)), (1, .int x1), (3, .int x3), (4, .int x4)]) g dk_0_isOutdone_76 rfl rfl (by decide) rfl (pc' := 79) rfl ?_
        refine v_goto (tgt := 18) g dk_0_isOutdone_79 (by decide) ?_
        refine v_sub [1, 2, 3, 4, 0] rfl ?_
        exact ih (x5 + 1) o hf hx hret
      · replace hf := ifF hc hf
        refine v_aload_n g dk_0_isOutdone_41 0 rfl rfl (pc' := 42) rfl ?_
        refine v_aload_n g dk_0_isOutdone_42 0 rfl rfl (pc' := 43) rfl ?_
        refine gfC_X_47 g hK dk_0_isOutdone_43 (pc' := 46) rfl ?_
        refine v_iload_n g dk_0_isOutdone_46 1 rfl rfl (pc' := 47) rfl ?_
        refine v_iload g dk_0_isOutdone_47 4 rfl (pc' := 49) rfl ?_
        obtain ⟨q5, hq, hf⟩ := bnd hf
        refine v_callV_i (As := [.int x1, .int x5]) (rest := [.ref (ad 0)]) (r := q5) (S1 := S) g hK hA (c_CSelects_conditionAt hq) (kcC_X_292 g.2.2.2.2 rfl rfl (Nat.le_of_ble_eq_true rfl) (Nat.le_of_ble_eq_true rfl)) (ci := 7) (q0 := 16) rfl rfl rfl rfl rfl (Nat.le_of_ble_eq_true rfl) dk_0_isOutdone_49 (Nat.zero_le _) (Nat.zero_le _) (pc' := 52) rfl ?_
        obtain ⟨q6, hq, hf⟩ := bnd hf
        refine v_callV_i (As := [.int q5]) (rest := []) (r := q6) (S1 := S) g hK hA (c_CX_askedBy hq) (kcC_X_298 g.2.2.2.2 rfl rfl (Nat.le_of_ble_eq_true rfl) (Nat.le_of_ble_eq_true rfl)) (ci := 0) (q0 := 0) rfl rfl rfl rfl rfl (Nat.le_of_ble_eq_true rfl) dk_0_isOutdone_52 (Nat.zero_le _) (Nat.zero_le _) (pc' := 55) rfl ?_
        refine v_istore (lv' := [(6, .int q6), (0, .ref (ad 0)), (1, .int x1), (3, .int x3), (4, .int x4), (5, .int x5)]) g dk_0_isOutdone_55 (by decide) rfl (pc' := 57) rfl ?_
        refine v_iload g dk_0_isOutdone_57 0 rfl (pc' := 59) rfl ?_
        refine v_iload g dk_0_isOutdone_59 4 rfl (pc' := 61) rfl ?_
        refine v_icmp_eq (tgt := 76) (pc' := 64) g dk_0_isOutdone_61 (by decide) rfl (fun hc => ?_) (fun hc => ?_)
        · replace hf := ifT hc hf
          refine v_iinc (j := 5) (v := x5 + 1) (lv' := [(5, .int (x5 + 1)), (6, .int q6), (0, .ref (ad 0)), (1, .int x1), (3, .int x3), (4, .int x4)]) g dk_0_isOutdone_76 rfl rfl (by decide) rfl (pc' := 79) rfl ?_
          refine v_goto (tgt := 18) g dk_0_isOutdone_79 (by decide) ?_
          refine v_sub [2, 3, 4, 5, 0] rfl ?_
          exact ih (x5 + 1) o hf hx hret
        · replace hf := ifF hc hf
          refine v_iload g dk_0_isOutdone_64 0 rfl (pc' := 66) rfl ?_
          refine v_iload g dk_0_isOutdone_66 4 rfl (pc' := 68) rfl ?_
          refine v_iand g dk_0_isOutdone_68 (pc' := 69) rfl ?_
          refine v_iload g dk_0_isOutdone_69 4 rfl (pc' := 71) rfl ?_
          refine v_icmp_ne (tgt := 76) (pc' := 74) g dk_0_isOutdone_71 (by decide) rfl (fun hc => ?_) (fun hc => ?_)
          · replace hf := ifF hc hf
            refine v_iinc (j := 5) (v := x5 + 1) (lv' := [(5, .int (x5 + 1)), (6, .int q6), (0, .ref (ad 0)), (1, .int x1), (3, .int x3), (4, .int x4)]) g dk_0_isOutdone_76 rfl rfl (by decide) rfl (pc' := 79) rfl ?_
            refine v_goto (tgt := 18) g dk_0_isOutdone_79 (by decide) ?_
            refine v_sub [2, 3, 4, 5, 0] rfl ?_
            exact ih (x5 + 1) o hf hx hret
          · replace hf := ifT hc hf
            refine v_iconst (v := 1) g dk_0_isOutdone_74 (by decide) (pc' := 75) rfl ?_
            exact v_zret g hr hlk hK rfl (hret _ (Option.some.inj hf).symm) dk_0_isOutdone_75
def m_CX_isOutdone (S : StC) (x1 : Int32) (x2 : Int32) (x3 : Int32) : Option Int32 :=
  (m_CSelects_conditionAt S x1 x2).bind fun q1 =>
    (m_CX_askedBy S q1).bind fun q2 =>
    (L_CX_isOutdone_18 S x1 x3 q2 100 0).bind fun o7 => exK o7 fun y8 =>
    some 0
set_option maxHeartbeats 4000000 in
set_option maxRecDepth 100000 in
theorem c_CX_isOutdone {l : Launch} {D : va_G} {ad : Nat → Nat} {ca : Nat → ClassId} {S : StC} {x1 : Int32} {x2 : Int32} {x3 : Int32} {r : Int32} (hf : m_CX_isOutdone S x1 x2 x3 = some r) : KIC l D ad ca yk_0_isOutdone (.code yk_0_isOutdone bk_0_isOutdone 7 (some .boolean) :: tb) rm_CX_isOutdone [.ref (ad 0), .int x1, .int x2, .int x3] S (r, S) := by
  refine met_z (by decide) (Nat.le_of_ble_eq_true rfl) (fun p e s m below meth c A g hr hlk hK hA => ?_)
  replace g : CallFix p m c bk_0_isOutdone 7 s _ tb Rk_0 := g
  refine v_lv (lv' := [(0, .ref (ad 0)), (1, .int x1), (2, .int x2), (3, .int x3)]) rfl ?_
  unfold m_CX_isOutdone at hf
  refine v_aload_n g dk_0_isOutdone_0 0 rfl rfl (pc' := 1) rfl ?_
  refine v_aload_n g dk_0_isOutdone_1 0 rfl rfl (pc' := 2) rfl ?_
  refine gfC_X_47 g hK dk_0_isOutdone_2 (pc' := 5) rfl ?_
  refine v_iload_n g dk_0_isOutdone_5 1 rfl rfl (pc' := 6) rfl ?_
  refine v_iload_n g dk_0_isOutdone_6 2 rfl rfl (pc' := 7) rfl ?_
  obtain ⟨q1, hq, hf⟩ := bnd hf
  refine v_callV_i (As := [.int x1, .int x2]) (rest := [.ref (ad 0)]) (r := q1) (S1 := S) g hK hA (c_CSelects_conditionAt hq) (kcC_X_292 g.2.2.2.2 rfl rfl (Nat.le_of_ble_eq_true rfl) (Nat.le_of_ble_eq_true rfl)) (ci := 7) (q0 := 16) rfl rfl rfl rfl rfl (Nat.le_of_ble_eq_true rfl) dk_0_isOutdone_7 (Nat.zero_le _) (Nat.zero_le _) (pc' := 10) rfl ?_
  obtain ⟨q2, hq, hf⟩ := bnd hf
  refine v_callV_i (As := [.int q1]) (rest := []) (r := q2) (S1 := S) g hK hA (c_CX_askedBy hq) (kcC_X_298 g.2.2.2.2 rfl rfl (Nat.le_of_ble_eq_true rfl) (Nat.le_of_ble_eq_true rfl)) (ci := 0) (q0 := 0) rfl rfl rfl rfl rfl (Nat.le_of_ble_eq_true rfl) dk_0_isOutdone_10 (Nat.zero_le _) (Nat.zero_le _) (pc' := 13) rfl ?_
  refine v_istore (lv' := [(4, .int q2), (0, .ref (ad 0)), (1, .int x1), (2, .int x2), (3, .int x3)]) g dk_0_isOutdone_13 (by decide) rfl (pc' := 15) rfl ?_
  refine v_iconst (v := 0) g dk_0_isOutdone_15 (by decide) (pc' := 16) rfl ?_
  refine v_istore (lv' := [(5, .int 0), (4, .int q2), (0, .ref (ad 0)), (1, .int x1), (2, .int x2), (3, .int x3)]) g dk_0_isOutdone_16 (by decide) rfl (pc' := 18) rfl ?_
  refine v_sub [2, 3, 5, 1, 0] rfl ?_
  obtain ⟨o7, hL, hf⟩ := bnd hf
  refine w_CX_isOutdone_18 g hr hlk hK hA 100 0 _ hL (fun y8 hy => ?_) (fun r9 hy => ?_)
  · subst hy
    replace hf := exKl hf
    refine v_iconst (v := 0) g dk_0_isOutdone_82 (by decide) (pc' := 83) rfl ?_
    exact v_zret g hr hlk hK rfl (pinj hf) dk_0_isOutdone_83
  · subst hy
    exact pinj hf
abbrev rm_CX_mostSpecialBranches : Room := { frames := 4, cells := 0, slots := 0, locals := 96 }
def L_CX_mostSpecialBranches_5 (S : StC) (x1 : Int32) (x2 : Int32) : Nat → Int32 → Int32 → Option (Int32)
  | 0, _, _ => none
  | n + 1, x3, x4 =>
    if inb x1 24 = true then if (gA S 12 x1.toNatClampNeg) ≤ x4 then some x3
    else (m_CX_hasBit S x2 x4).bind fun q2 =>
    if q2 = 0 then L_CX_mostSpecialBranches_5 S x1 x2 n x3 (x4 + 1)
    else (m_CX_isOutdone S x1 x4 x2).bind fun q3 =>
    if q3 = 0 then L_CX_mostSpecialBranches_5 S x1 x2 n (x3 ||| ((1 : Int32) <<< (x4 &&& 31))) (x4 + 1)
    else L_CX_mostSpecialBranches_5 S x1 x2 n x3 (x4 + 1) else none
set_option maxHeartbeats 4000000 in
set_option maxRecDepth 100000 in
theorem w_CX_mostSpecialBranches_5 {p : Program} {l : Launch} {e : Env} {s : State} {m : MethodId} {args : Array Value} {below : List Frame} {meth : Method} {c : Code} {A : Nat → Prop} {D : va_G} {ad : Nat → Nat} {ca : Nat → ClassId} {Rm : Int32 × StC} {S : StC} {x1 : Int32} {x2 : Int32} (g : CallFix p m c bk_0_mostSpecialBranches 5 s args tb Rk_0) (hr : meth.sig.returnType = some .int) (hlk : meth.locks = false) (hK : va_K D vwCl (tyC ca) s) (hA : ∀ q, s.heap.size ≤ q → A q) : ∀ (n : Nat) (x3 : Int32) (x4 : Int32) (o : Int32), L_CX_mostSpecialBranches_5 S x1 x2 n x3 x4 = some o → (Vj p l e rm_CX_mostSpecialBranches s m args below meth c (MQ below (qI D vwCl (tyC ca) (wdC ad ca) A Rm) args s 0 0 A) D vwCl A 5 0 0 (wdC ad ca S) 52 [(3, .int o)] []) → Vj p l e rm_CX_mostSpecialBranches s m args below meth c (MQ below (qI D vwCl (tyC ca) (wdC ad ca) A Rm) args s 0 0 A) D vwCl A 5 0 0 (wdC ad ca S) 5 [(0, .ref (ad 0)), (1, .int x1), (2, .int x2), (3, .int x3), (4, .int x4)] [] := by
  intro n
  induction n with
  | zero => intro x3 x4 o hf; exact nomatch (show none = some o from hf)
  | succ n ih =>
    intro x3 x4 o hf hx
    rw [L_CX_mostSpecialBranches_5] at hf
    refine v_iload g dk_0_mostSpecialBranches_5 4 rfl (pc' := 7) rfl ?_
    refine v_aload_n g dk_0_mostSpecialBranches_7 0 rfl rfl (pc' := 8) rfl ?_
    refine gfC_X_47 g hK dk_0_mostSpecialBranches_8 (pc' := 11) rfl ?_
    refine gfC_X_266 g hK dk_0_mostSpecialBranches_11 (pc' := 14) rfl ?_
    refine v_iload_n g dk_0_mostSpecialBranches_14 1 rfl rfl (pc' := 15) rfl ?_
    obtain ⟨hb1, hf⟩ := grd hf
    refine alC_21 g hK hb1 dk_0_mostSpecialBranches_15 (pc' := 16) rfl ?_
    refine v_icmp_ge (tgt := 52) (pc' := 19) g dk_0_mostSpecialBranches_16 (by decide) rfl (fun hc => ?_) (fun hc => ?_)
    · replace hf := ifT hc hf
      refine v_sub [3] rfl ?_
      have e9 := Option.some.inj hf
      subst e9
      exact hx
    · replace hf := ifF hc hf
      refine v_iload_n g dk_0_mostSpecialBranches_19 2 rfl rfl (pc' := 20) rfl ?_
      refine v_iload g dk_0_mostSpecialBranches_20 4 rfl (pc' := 22) rfl ?_
      obtain ⟨q2, hq, hf⟩ := bnd hf
      refine v_callS_i (As := [.int x2, .int x4]) (rest := []) (r := q2) (S1 := S) g hK hA (c_CX_hasBit hq) (kcC_X_269 g.2.2.2.2 rfl rfl (Nat.le_of_ble_eq_true rfl) (Nat.le_of_ble_eq_true rfl)) rfl rfl (Nat.le_of_ble_eq_true rfl) dk_0_mostSpecialBranches_22 (Nat.zero_le _) (Nat.zero_le _) (pc' := 25) rfl ?_
      refine v_if_eq (tgt := 46) (pc' := 28) g dk_0_mostSpecialBranches_25 (by decide) rfl (fun hc => ?_) (fun hc => ?_)
      · replace hf := ifT hc hf
        refine v_iinc (j := 4) (v := x4 + 1) (lv' := [(4, .int (x4 + 1)), (0, .ref (ad 0)), (1, .int x1), (2, .int x2), (3, .int x3)]) g dk_0_mostSpecialBranches_46 rfl rfl (by decide) rfl (pc' := 49) rfl ?_
        refine v_goto (tgt := 5) g dk_0_mostSpecialBranches_49 (by decide) ?_
        refine v_sub [1, 2, 3, 4, 0] rfl ?_
        exact ih x3 (x4 + 1) o hf hx
      · replace hf := ifF hc hf
        refine v_aload_n g dk_0_mostSpecialBranches_28 0 rfl rfl (pc' := 29) rfl ?_
        refine v_iload_n g dk_0_mostSpecialBranches_29 1 rfl rfl (pc' := 30) rfl ?_
        refine v_iload g dk_0_mostSpecialBranches_30 4 rfl (pc' := 32) rfl ?_
        refine v_iload_n g dk_0_mostSpecialBranches_32 2 rfl rfl (pc' := 33) rfl ?_
        obtain ⟨q3, hq, hf⟩ := bnd hf
        refine v_callV_i (As := [.int x1, .int x4, .int x2]) (rest := []) (r := q3) (S1 := S) g hK hA (c_CX_isOutdone hq) (kcC_X_295 g.2.2.2.2 rfl rfl (Nat.le_of_ble_eq_true rfl) (Nat.le_of_ble_eq_true rfl)) (ci := 0) (q0 := 0) rfl rfl rfl rfl rfl (Nat.le_of_ble_eq_true rfl) dk_0_mostSpecialBranches_33 (Nat.zero_le _) (Nat.zero_le _) (pc' := 36) rfl ?_
        refine v_if_ne (tgt := 46) (pc' := 39) g dk_0_mostSpecialBranches_36 (by decide) rfl (fun hc => ?_) (fun hc => ?_)
        · replace hf := ifF hc hf
          refine v_iinc (j := 4) (v := x4 + 1) (lv' := [(4, .int (x4 + 1)), (0, .ref (ad 0)), (1, .int x1), (2, .int x2), (3, .int x3)]) g dk_0_mostSpecialBranches_46 rfl rfl (by decide) rfl (pc' := 49) rfl ?_
          refine v_goto (tgt := 5) g dk_0_mostSpecialBranches_49 (by decide) ?_
          refine v_sub [1, 2, 3, 4, 0] rfl ?_
          exact ih x3 (x4 + 1) o hf hx
        · replace hf := ifT hc hf
          refine v_iload_n g dk_0_mostSpecialBranches_39 3 rfl rfl (pc' := 40) rfl ?_
          refine v_iconst (v := 1) g dk_0_mostSpecialBranches_40 (by decide) (pc' := 41) rfl ?_
          refine v_iload g dk_0_mostSpecialBranches_41 4 rfl (pc' := 43) rfl ?_
          refine v_ishl g dk_0_mostSpecialBranches_43 (pc' := 44) rfl ?_
          refine v_ior g dk_0_mostSpecialBranches_44 (pc' := 45) rfl ?_
          refine v_istore_n (lv' := [(3, .int (x3 ||| ((1 : Int32) <<< (x4 &&& 31)))), (0, .ref (ad 0)), (1, .int x1), (2, .int x2), (4, .int x4)]) g dk_0_mostSpecialBranches_45 rfl (by decide) rfl (pc' := 46) rfl ?_
          refine v_iinc (j := 4) (v := x4 + 1) (lv' := [(4, .int (x4 + 1)), (3, .int (x3 ||| ((1 : Int32) <<< (x4 &&& 31)))), (0, .ref (ad 0)), (1, .int x1), (2, .int x2)]) g dk_0_mostSpecialBranches_46 rfl rfl (by decide) rfl (pc' := 49) rfl ?_
          refine v_goto (tgt := 5) g dk_0_mostSpecialBranches_49 (by decide) ?_
          refine v_sub [2, 3, 4, 1, 0] rfl ?_
          exact ih (x3 ||| ((1 : Int32) <<< (x4 &&& 31))) (x4 + 1) o hf hx
def m_CX_mostSpecialBranches (S : StC) (x1 : Int32) (x2 : Int32) : Option Int32 :=
  (L_CX_mostSpecialBranches_5 S x1 x2 100 0 0).bind fun y5 =>
    some y5
set_option maxHeartbeats 4000000 in
set_option maxRecDepth 100000 in
theorem c_CX_mostSpecialBranches {l : Launch} {D : va_G} {ad : Nat → Nat} {ca : Nat → ClassId} {S : StC} {x1 : Int32} {x2 : Int32} {r : Int32} (hf : m_CX_mostSpecialBranches S x1 x2 = some r) : KIC l D ad ca yk_0_mostSpecialBranches (.code yk_0_mostSpecialBranches bk_0_mostSpecialBranches 5 (some .int) :: tb) rm_CX_mostSpecialBranches [.ref (ad 0), .int x1, .int x2] S (r, S) := by
  refine met_i (by decide) (Nat.le_of_ble_eq_true rfl) (fun p e s m below meth c A g hr hlk hK hA => ?_)
  replace g : CallFix p m c bk_0_mostSpecialBranches 5 s _ tb Rk_0 := g
  refine v_lv (lv' := [(0, .ref (ad 0)), (1, .int x1), (2, .int x2)]) rfl ?_
  unfold m_CX_mostSpecialBranches at hf
  refine v_iconst (v := 0) g dk_0_mostSpecialBranches_0 (by decide) (pc' := 1) rfl ?_
  refine v_istore_n (lv' := [(3, .int 0), (0, .ref (ad 0)), (1, .int x1), (2, .int x2)]) g dk_0_mostSpecialBranches_1 rfl (by decide) rfl (pc' := 2) rfl ?_
  refine v_iconst (v := 0) g dk_0_mostSpecialBranches_2 (by decide) (pc' := 3) rfl ?_
  refine v_istore (lv' := [(4, .int 0), (3, .int 0), (0, .ref (ad 0)), (1, .int x1), (2, .int x2)]) g dk_0_mostSpecialBranches_3 (by decide) rfl (pc' := 5) rfl ?_
  refine v_sub [2, 3, 4, 1, 0] rfl ?_
  obtain ⟨y5, hL, hf⟩ := bnd hf
  refine w_CX_mostSpecialBranches_5 g hr hlk hK hA 100 0 0 _ hL ?_
  refine v_iload_n g dk_0_mostSpecialBranches_52 0 rfl rfl (pc' := 53) rfl ?_
  exact v_iret g hr hlk hK  (pinj hf) dk_0_mostSpecialBranches_53
abbrev rm_CX_givenBy_0 : Room := { frames := 1, cells := 0, slots := 0, locals := 20 }
def m_CX_givenBy_0 (S : StC) (x1 : Int32) (x2 : Int64) (x4 : Int32) : Option Int64 :=
  if inb x1 192 = true then if (gA S 14 x1.toNatClampNeg) = 0 then (m_CChoices_ofValue S (gA S 15 x1.toNatClampNeg)).bind fun q3 =>
    some q3
    else if x4 < 1 then none
    else (m_CChoices_nothing S).bind fun q2 =>
    some q2 else none
set_option maxHeartbeats 4000000 in
set_option maxRecDepth 100000 in
theorem c_CX_givenBy_0 {l : Launch} {D : va_G} {ad : Nat → Nat} {ca : Nat → ClassId} {S : StC} {x1 : Int32} {x2 : Int64} {x4 : Int32} {r : Int64} (hf : m_CX_givenBy_0 S x1 x2 x4 = some r) : KLC l D ad ca yk_0_givenBy (.code yk_0_givenBy bk_0_givenBy 5 (some .long) :: tb) rm_CX_givenBy_0 [.ref (ad 0), .int x1, .long x2, .int x4] S (r, S) := by
  refine met_l (by decide) (Nat.le_of_ble_eq_true rfl) (fun p e s m below meth c A g hr hlk hK hA => ?_)
  replace g : CallFix p m c bk_0_givenBy 5 s _ tb Rk_0 := g
  refine v_lv (lv' := [(0, .ref (ad 0)), (1, .int x1), (2, .long x2), (4, .int x4)]) rfl ?_
  unfold m_CX_givenBy_0 at hf
  refine v_aload_n g dk_0_givenBy_0 0 rfl rfl (pc' := 1) rfl ?_
  refine gfC_X_47 g hK dk_0_givenBy_1 (pc' := 4) rfl ?_
  refine gfC_X_286 g hK dk_0_givenBy_4 (pc' := 7) rfl ?_
  refine v_iload_n g dk_0_givenBy_7 1 rfl rfl (pc' := 8) rfl ?_
  obtain ⟨hb1, hf⟩ := grd hf
  refine alC_23 g hK hb1 dk_0_givenBy_8 (pc' := 9) rfl ?_
  refine v_if_ne (tgt := 25) (pc' := 12) g dk_0_givenBy_9 (by decide) rfl (fun hc => ?_) (fun hc => ?_)
  · replace hf := ifF hc hf
    refine v_iload g dk_0_givenBy_25 3 rfl (pc' := 27) rfl ?_
    refine v_iconst (v := 1) g dk_0_givenBy_27 (by decide) (pc' := 28) rfl ?_
    refine v_icmp_lt (tgt := 35) (pc' := 31) g dk_0_givenBy_28 (by decide) rfl (fun hc => ?_) (fun hc => ?_)
    · replace hf := ifT hc hf
      refine v_aload_n g dk_0_givenBy_35 0 rfl rfl (pc' := 36) rfl ?_
      refine v_aload_n g dk_0_givenBy_36 0 rfl rfl (pc' := 37) rfl ?_
      refine gfC_X_47 g hK dk_0_givenBy_37 (pc' := 40) rfl ?_
      refine gfC_X_289 g hK dk_0_givenBy_40 (pc' := 43) rfl ?_
      refine v_iload_n g dk_0_givenBy_43 1 rfl rfl (pc' := 44) rfl ?_
      refine alC_24 g hK hb1 dk_0_givenBy_44 (pc' := 45) rfl ?_
      refine v_lload_n g dk_0_givenBy_45 2 rfl rfl (pc' := 46) rfl ?_
      refine v_iload g dk_0_givenBy_46 3 rfl (pc' := 48) rfl ?_
      refine v_iconst (v := 1) g dk_0_givenBy_48 (by decide) (pc' := 49) rfl ?_
      refine v_iadd g dk_0_givenBy_49 (pc' := 50) rfl ?_
      cases hf
    · replace hf := ifF hc hf
      obtain ⟨q2, hq, hf⟩ := bnd hf
      refine v_callS_l (As := []) (rest := []) (r := q2) (S1 := S) g hK hA (c_CChoices_nothing hq) (kcC_X_65 g.2.2.2.2 rfl rfl (Nat.le_of_ble_eq_true rfl) (Nat.le_of_ble_eq_true rfl)) rfl rfl (Nat.le_of_ble_eq_true rfl) dk_0_givenBy_31 (Nat.zero_le _) (Nat.zero_le _) (pc' := 34) rfl ?_
      exact v_lret g hr hlk hK  (pinj hf) dk_0_givenBy_34
  · replace hf := ifT hc hf
    refine v_aload_n g dk_0_givenBy_12 0 rfl rfl (pc' := 13) rfl ?_
    refine gfC_X_47 g hK dk_0_givenBy_13 (pc' := 16) rfl ?_
    refine gfC_X_289 g hK dk_0_givenBy_16 (pc' := 19) rfl ?_
    refine v_iload_n g dk_0_givenBy_19 1 rfl rfl (pc' := 20) rfl ?_
    refine alC_24 g hK hb1 dk_0_givenBy_20 (pc' := 21) rfl ?_
    obtain ⟨q3, hq, hf⟩ := bnd hf
    refine v_callS_l (As := [.int (gA S 15 x1.toNatClampNeg)]) (rest := []) (r := q3) (S1 := S) g hK hA (c_CChoices_ofValue hq) (kcC_X_144 g.2.2.2.2 rfl rfl (Nat.le_of_ble_eq_true rfl) (Nat.le_of_ble_eq_true rfl)) rfl rfl (Nat.le_of_ble_eq_true rfl) dk_0_givenBy_21 (Nat.zero_le _) (Nat.zero_le _) (pc' := 24) rfl ?_
    exact v_lret g hr hlk hK  (pinj hf) dk_0_givenBy_24
abbrev rm_CChoices_kindOf : Room := { frames := 0, cells := 0, slots := 0, locals := 0 }
def m_CChoices_kindOf (S : StC) (x0 : Int64) : Option Int32 :=
  some (((x0.toUInt64 >>> ((32 : Int32).toInt64.toUInt64 &&& Int64.toUInt64 63)).toInt64).toInt32)
set_option maxHeartbeats 4000000 in
set_option maxRecDepth 100000 in
theorem c_CChoices_kindOf {l : Launch} {D : va_G} {ad : Nat → Nat} {ca : Nat → ClassId} {S : StC} {x0 : Int64} {r : Int32} (hf : m_CChoices_kindOf S x0 = some r) : KIC l D ad ca yk_3_kindOf (.code yk_3_kindOf bk_3_kindOf 2 (some .int) :: tb) rm_CChoices_kindOf [.long x0] S (r, S) := by
  refine met_i (by decide) (Nat.le_of_ble_eq_true rfl) (fun p e s m below meth c A g hr hlk hK hA => ?_)
  replace g : CallFix p m c bk_3_kindOf 2 s _ tb Rk_3 := g
  refine v_lv (lv' := [(0, .long x0)]) rfl ?_
  unfold m_CChoices_kindOf at hf
  refine v_lload_n g dk_3_kindOf_0 0 rfl rfl (pc' := 1) rfl ?_
  refine v_bipush (v := 32) g dk_3_kindOf_1 (by decide) (pc' := 3) rfl ?_
  refine v_lushr g dk_3_kindOf_3 (pc' := 4) rfl ?_
  refine v_l2i g dk_3_kindOf_4 (pc' := 5) rfl ?_
  exact v_iret g hr hlk hK  (pinj hf) dk_3_kindOf_5
