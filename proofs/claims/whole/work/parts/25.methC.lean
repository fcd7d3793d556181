abbrev rm_CNeeds_settingAt : Room := { frames := 0, cells := 0, slots := 0, locals := 0 }
def m_CNeeds_settingAt (S : StC) (x1 : Int32) (x2 : Int32) : Option Int32 :=
  if inb ((x1 * (2 : Int32)) + x2) 80 = true then some (gA S 19 ((x1 * (2 : Int32)) + x2).toNatClampNeg) else none
set_option maxHeartbeats 4000000 in
set_option maxRecDepth 100000 in
theorem c_CNeeds_settingAt {l : Launch} {D : va_G} {ad : Nat → Nat} {ca : Nat → ClassId} {S : StC} {x1 : Int32} {x2 : Int32} {r : Int32} (hf : m_CNeeds_settingAt S x1 x2 = some r) : KIC l D ad ca yk_7_settingAt (.code yk_7_settingAt bk_7_settingAt 3 (some .int) :: tb) rm_CNeeds_settingAt [.ref (ad 25), .int x1, .int x2] S (r, S) := by
  refine met_i (by decide) (Nat.le_of_ble_eq_true rfl) (fun p e s m below meth c A g hr hlk hK hA => ?_)
  replace g : CallFix p m c bk_7_settingAt 3 s _ tb Rk_7 := g
  refine v_lv (lv' := [(0, .ref (ad 25)), (1, .int x1), (2, .int x2)]) rfl ?_
  unfold m_CNeeds_settingAt at hf
  refine v_aload_n g dk_7_settingAt_0 0 rfl rfl (pc' := 1) rfl ?_
  refine gfC_Needs_21 g hK dk_7_settingAt_1 (pc' := 4) rfl ?_
  refine v_iload_n g dk_7_settingAt_4 1 rfl rfl (pc' := 5) rfl ?_
  refine v_iconst (v := 2) g dk_7_settingAt_5 (by decide) (pc' := 6) rfl ?_
  refine v_imul g dk_7_settingAt_6 (pc' := 7) rfl ?_
  refine v_iload_n g dk_7_settingAt_7 2 rfl rfl (pc' := 8) rfl ?_
  refine v_iadd g dk_7_settingAt_8 (pc' := 9) rfl ?_
  obtain ⟨hb1, hf⟩ := grd hf
  refine alC_29 g hK hb1 dk_7_settingAt_9 (pc' := 10) rfl ?_
  exact v_iret g hr hlk hK  (pinj hf) dk_7_settingAt_10
abbrev rm_CX_changedBase : Room := { frames := 2, cells := 0, slots := 0, locals := 44 }
def m_CX_changedBase (S : StC) (x1 : Int32) (x2 : Int32) : Option Int32 :=
  if inb x1 40 = true then if (gA S 18 x1.toNatClampNeg) ≤ x2 then some (-1)
    else (m_CNeeds_settingAt S x1 x2).bind fun q2 =>
    (m_CSettings_baseOf S q2).bind fun q3 =>
    some q3 else none
set_option maxHeartbeats 4000000 in
set_option maxRecDepth 100000 in
theorem c_CX_changedBase {l : Launch} {D : va_G} {ad : Nat → Nat} {ca : Nat → ClassId} {S : StC} {x1 : Int32} {x2 : Int32} {r : Int32} (hf : m_CX_changedBase S x1 x2 = some r) : KIC l D ad ca yk_0_changedBase (.code yk_0_changedBase bk_0_changedBase 3 (some .int) :: tb) rm_CX_changedBase [.ref (ad 0), .int x1, .int x2] S (r, S) := by
  refine met_i (by decide) (Nat.le_of_ble_eq_true rfl) (fun p e s m below meth c A g hr hlk hK hA => ?_)
  replace g : CallFix p m c bk_0_changedBase 3 s _ tb Rk_0 := g
  refine v_lv (lv' := [(0, .ref (ad 0)), (1, .int x1), (2, .int x2)]) rfl ?_
  unfold m_CX_changedBase at hf
  refine v_iload_n g dk_0_changedBase_0 2 rfl rfl (pc' := 1) rfl ?_
  refine v_aload_n g dk_0_changedBase_1 0 rfl rfl (pc' := 2) rfl ?_
  refine gfC_X_54 g hK dk_0_changedBase_2 (pc' := 5) rfl ?_
  refine gfC_X_332 g hK dk_0_changedBase_5 (pc' := 8) rfl ?_
  refine v_iload_n g dk_0_changedBase_8 1 rfl rfl (pc' := 9) rfl ?_
  obtain ⟨hb1, hf⟩ := grd hf
  refine alC_28 g hK hb1 dk_0_changedBase_9 (pc' := 10) rfl ?_
  refine v_icmp_ge (tgt := 32) (pc' := 13) g dk_0_changedBase_10 (by decide) rfl (fun hc => ?_) (fun hc => ?_)
  · replace hf := ifT hc hf
    refine v_iconst (v := (-1)) g dk_0_changedBase_32 (by decide) (pc' := 33) rfl ?_
    exact v_iret g hr hlk hK  (pinj hf) dk_0_changedBase_33
  · replace hf := ifF hc hf
    refine v_aload_n g dk_0_changedBase_13 0 rfl rfl (pc' := 14) rfl ?_
    refine gfC_X_12 g hK dk_0_changedBase_14 (pc' := 17) rfl ?_
    refine v_aload_n g dk_0_changedBase_17 0 rfl rfl (pc' := 18) rfl ?_
    refine gfC_X_54 g hK dk_0_changedBase_18 (pc' := 21) rfl ?_
    refine v_iload_n g dk_0_changedBase_21 1 rfl rfl (pc' := 22) rfl ?_
    refine v_iload_n g dk_0_changedBase_22 2 rfl rfl (pc' := 23) rfl ?_
    obtain ⟨q2, hq, hf⟩ := bnd hf
    refine v_callV_i (As := [.int x1, .int x2]) (rest := [.ref (ad 1)]) (r := q2) (S1 := S) g hK hA (c_CNeeds_settingAt hq) (kcC_X_335 g.2.2.2.2 rfl rfl (Nat.le_of_ble_eq_true rfl) (Nat.le_of_ble_eq_true rfl)) (ci := 4) (q0 := 25) rfl rfl rfl rfl rfl (Nat.le_of_ble_eq_true rfl) dk_0_changedBase_23 (Nat.zero_le _) (Nat.zero_le _) (pc' := 26) rfl ?_
    obtain ⟨q3, hq, hf⟩ := bnd hf
    refine v_callV_i (As := [.int q2]) (rest := []) (r := q3) (S1 := S) g hK hA (c_CSettings_baseOf hq) (kcC_X_83 g.2.2.2.2 rfl rfl (Nat.le_of_ble_eq_true rfl) (Nat.le_of_ble_eq_true rfl)) (ci := 8) (q0 := 1) rfl rfl rfl rfl rfl (Nat.le_of_ble_eq_true rfl) dk_0_changedBase_26 (Nat.zero_le _) (Nat.zero_le _) (pc' := 29) rfl ?_
    refine v_goto (tgt := 33) g dk_0_changedBase_29 (by decide) ?_
    exact v_iret g hr hlk hK  (pinj hf) dk_0_changedBase_33
abbrev rm_CNeeds_valuesAt : Room := { frames := 0, cells := 0, slots := 0, locals := 0 }
def m_CNeeds_valuesAt (S : StC) (x1 : Int32) (x2 : Int32) : Option Int32 :=
  if inb ((x1 * (2 : Int32)) + x2) 80 = true then some (gA S 20 ((x1 * (2 : Int32)) + x2).toNatClampNeg) else none
set_option maxHeartbeats 4000000 in
set_option maxRecDepth 100000 in
theorem c_CNeeds_valuesAt {l : Launch} {D : va_G} {ad : Nat → Nat} {ca : Nat → ClassId} {S : StC} {x1 : Int32} {x2 : Int32} {r : Int32} (hf : m_CNeeds_valuesAt S x1 x2 = some r) : KIC l D ad ca yk_7_valuesAt (.code yk_7_valuesAt bk_7_valuesAt 3 (some .int) :: tb) rm_CNeeds_valuesAt [.ref (ad 25), .int x1, .int x2] S (r, S) := by
  refine met_i (by decide) (Nat.le_of_ble_eq_true rfl) (fun p e s m below meth c A g hr hlk hK hA => ?_)
  replace g : CallFix p m c bk_7_valuesAt 3 s _ tb Rk_7 := g
  refine v_lv (lv' := [(0, .ref (ad 25)), (1, .int x1), (2, .int x2)]) rfl ?_
  unfold m_CNeeds_valuesAt at hf
  refine v_aload_n g dk_7_valuesAt_0 0 rfl rfl (pc' := 1) rfl ?_
  refine gfC_Needs_24 g hK dk_7_valuesAt_1 (pc' := 4) rfl ?_
  refine v_iload_n g dk_7_valuesAt_4 1 rfl rfl (pc' := 5) rfl ?_
  refine v_iconst (v := 2) g dk_7_valuesAt_5 (by decide) (pc' := 6) rfl ?_
  refine v_imul g dk_7_valuesAt_6 (pc' := 7) rfl ?_
  refine v_iload_n g dk_7_valuesAt_7 2 rfl rfl (pc' := 8) rfl ?_
  refine v_iadd g dk_7_valuesAt_8 (pc' := 9) rfl ?_
  obtain ⟨hb1, hf⟩ := grd hf
  refine alC_30 g hK hb1 dk_7_valuesAt_9 (pc' := 10) rfl ?_
  exact v_iret g hr hlk hK  (pinj hf) dk_7_valuesAt_10
abbrev rm_CX_turnsOf : Room := { frames := 1, cells := 0, slots := 0, locals := 22 }
def m_CX_turnsOf (S : StC) (x1 : Int32) (x2 : Int32) (x3 : Int32) : Option Int32 :=
  if x3 = (-1) then some 1
    else (m_CNeeds_valuesAt S x1 x2).bind fun q1 =>
    if inb x3 16 = true then some (q1 &&& (((1 : Int32) <<< ((gA S 0 x3.toNatClampNeg) &&& 31)) - (1 : Int32))) else none
set_option maxHeartbeats 4000000 in
set_option maxRecDepth 100000 in
theorem c_CX_turnsOf {l : Launch} {D : va_G} {ad : Nat → Nat} {ca : Nat → ClassId} {S : StC} {x1 : Int32} {x2 : Int32} {x3 : Int32} {r : Int32} (hf : m_CX_turnsOf S x1 x2 x3 = some r) : KIC l D ad ca yk_0_turnsOf (.code yk_0_turnsOf bk_0_turnsOf 4 (some .int) :: tb) rm_CX_turnsOf [.ref (ad 0), .int x1, .int x2, .int x3] S (r, S) := by
  refine met_i (by decide) (Nat.le_of_ble_eq_true rfl) (fun p e s m below meth c A g hr hlk hK hA => ?_)
  replace g : CallFix p m c bk_0_turnsOf 4 s _ tb Rk_0 := g
  refine v_lv (lv' := [(0, .ref (ad 0)), (1, .int x1), (2, .int x2), (3, .int x3)]) rfl ?_
  unfold m_CX_turnsOf at hf
  refine v_iload_n g dk_0_turnsOf_0 3 rfl rfl (pc' := 1) rfl ?_
  refine v_iconst (v := (-1)) g dk_0_turnsOf_1 (by decide) (pc' := 2) rfl ?_
  refine v_icmp_ne (tgt := 7) (pc' := 5) g dk_0_turnsOf_2 (by decide) rfl (fun hc => ?_) (fun hc => ?_)
  · replace hf := ifF hc hf
    refine v_aload_n g dk_0_turnsOf_7 0 rfl rfl (pc' := 8) rfl ?_
    refine gfC_X_54 g hK dk_0_turnsOf_8 (pc' := 11) rfl ?_
    refine v_iload_n g dk_0_turnsOf_11 1 rfl rfl (pc' := 12) rfl ?_
    refine v_iload_n g dk_0_turnsOf_12 2 rfl rfl (pc' := 13) rfl ?_
    obtain ⟨q1, hq, hf⟩ := bnd hf
    refine v_callV_i (As := [.int x1, .int x2]) (rest := []) (r := q1) (S1 := S) g hK hA (c_CNeeds_valuesAt hq) (kcC_X_338 g.2.2.2.2 rfl rfl (Nat.le_of_ble_eq_true rfl) (Nat.le_of_ble_eq_true rfl)) (ci := 4) (q0 := 25) rfl rfl rfl rfl rfl (Nat.le_of_ble_eq_true rfl) dk_0_turnsOf_13 (Nat.zero_le _) (Nat.zero_le _) (pc' := 16) rfl ?_
    refine v_iconst (v := 1) g dk_0_turnsOf_16 (by decide) (pc' := 17) rfl ?_
    refine v_aload_n g dk_0_turnsOf_17 0 rfl rfl (pc' := 18) rfl ?_
    refine gfC_X_12 g hK dk_0_turnsOf_18 (pc' := 21) rfl ?_
    refine gfC_X_162 g hK dk_0_turnsOf_21 (pc' := 24) rfl ?_
    refine v_iload_n g dk_0_turnsOf_24 3 rfl rfl (pc' := 25) rfl ?_
    obtain ⟨hb2, hf⟩ := grd hf
    refine alC_2 g hK hb2 dk_0_turnsOf_25 (pc' := 26) rfl ?_
    refine v_ishl g dk_0_turnsOf_26 (pc' := 27) rfl ?_
    refine v_iconst (v := 1) g dk_0_turnsOf_27 (by decide) (pc' := 28) rfl ?_
    refine v_isub g dk_0_turnsOf_28 (pc' := 29) rfl ?_
    refine v_iand g dk_0_turnsOf_29 (pc' := 30) rfl ?_
    exact v_iret g hr hlk hK  (pinj hf) dk_0_turnsOf_30
  · replace hf := ifT hc hf
    refine v_iconst (v := 1) g dk_0_turnsOf_5 (by decide) (pc' := 6) rfl ?_
    exact v_iret g hr hlk hK  (pinj hf) dk_0_turnsOf_6
abbrev rm_CX_afterChange : Room := { frames := 1, cells := 0, slots := 0, locals := 24 }
def m_CX_afterChange (S : StC) (x0 : Int64) (x2 : Int32) (x3 : Int32) : Option Int64 :=
  if x2 = (-1) then some x0
    else (m_CCodes_withValue S x0 x2 x3).bind fun q1 =>
    some q1
set_option maxHeartbeats 4000000 in
set_option maxRecDepth 100000 in
theorem c_CX_afterChange {l : Launch} {D : va_G} {ad : Nat → Nat} {ca : Nat → ClassId} {S : StC} {x0 : Int64} {x2 : Int32} {x3 : Int32} {r : Int64} (hf : m_CX_afterChange S x0 x2 x3 = some r) : KLC l D ad ca yk_0_afterChange (.code yk_0_afterChange bk_0_afterChange 4 (some .long) :: tb) rm_CX_afterChange [.long x0, .int x2, .int x3] S (r, S) := by
  refine met_l (by decide) (Nat.le_of_ble_eq_true rfl) (fun p e s m below meth c A g hr hlk hK hA => ?_)
  replace g : CallFix p m c bk_0_afterChange 4 s _ tb Rk_0 := g
  refine v_lv (lv' := [(0, .long x0), (2, .int x2), (3, .int x3)]) rfl ?_
  unfold m_CX_afterChange at hf
  refine v_iload_n g dk_0_afterChange_0 1 rfl rfl (pc' := 1) rfl ?_
  refine v_iconst (v := (-1)) g dk_0_afterChange_1 (by decide) (pc' := 2) rfl ?_
  refine v_icmp_ne (tgt := 9) (pc' := 5) g dk_0_afterChange_2 (by decide) rfl (fun hc => ?_) (fun hc => ?_)
  · replace hf := ifF hc hf
    refine v_lload_n g dk_0_afterChange_9 0 rfl rfl (pc' := 10) rfl ?_
    refine v_iload_n g dk_0_afterChange_10 1 rfl rfl (pc' := 11) rfl ?_
    refine v_iload_n g dk_0_afterChange_11 2 rfl rfl (pc' := 12) rfl ?_
    obtain ⟨q1, hq, hf⟩ := bnd hf
    refine v_callS_l (As := [.long x0, .int x2, .int x3]) (rest := []) (r := q1) (S1 := S) g hK hA (c_CCodes_withValue hq) (kcC_X_168 g.2.2.2.2 rfl rfl (Nat.le_of_ble_eq_true rfl) (Nat.le_of_ble_eq_true rfl)) rfl rfl (Nat.le_of_ble_eq_true rfl) dk_0_afterChange_12 (Nat.zero_le _) (Nat.zero_le _) (pc' := 15) rfl ?_
    exact v_lret g hr hlk hK  (pinj hf) dk_0_afterChange_15
  · replace hf := ifT hc hf
    refine v_lload_n g dk_0_afterChange_5 0 rfl rfl (pc' := 6) rfl ?_
    refine v_goto (tgt := 15) g dk_0_afterChange_6 (by decide) ?_
    exact v_lret g hr hlk hK  (pinj hf) dk_0_afterChange_15
abbrev rm_CX_followNeed : Room := { frames := 3, cells := 0, slots := 0, locals := 74 }
def L_CX_followNeed_90 (x1 : Int32) (x2 : Int32) (x3 : Int64) (x5 : Int32) (x6 : Int32) (x7 : Int32) (x8 : Int32) (x9 : Int32) (x10 : Int64) : Nat → StC → Int32 → Option (StC ⊕ (Int32 × StC))
  | 0, _, _ => none
  | n + 1, S, x12 =>
    if 8 ≤ x12 then some (.inl S)
    else (m_CX_hasBit S x8 x12).bind fun q9 =>
    if q9 = 0 then L_CX_followNeed_90 x1 x2 x3 x5 x6 x7 x8 x9 x10 n S (x12 + 1)
    else if inb x2 40 = true then (m_CX_afterChange S x10 x6 x12).bind fun q11 =>
    (m_CX_pairOf S (gA S 17 x2.toNatClampNeg) q11).bind fun q12 =>
    if q12.1 = (-1) then some (.inr (0, q12.2))
    else if inb x1 60 = true then L_CX_followNeed_90 x1 x2 x3 x5 x6 x7 x8 x9 x10 n (tB q12.2 2 x1 ((gB q12.2 2 x1.toNatClampNeg) ||| ((1 : Int64) <<< (q12.1.toInt64 &&& 63)))) (x12 + 1) else none else none
set_option maxHeartbeats 4000000 in
set_option maxRecDepth 100000 in
theorem w_CX_followNeed_90 {p : Program} {l : Launch} {e : Env} {s : State} {m : MethodId} {args : Array Value} {below : List Frame} {meth : Method} {c : Code} {A : Nat → Prop} {D : va_G} {ad : Nat → Nat} {ca : Nat → ClassId} {Rm : Int32 × StC} {x1 : Int32} {x2 : Int32} {x3 : Int64} {x5 : Int32} {x6 : Int32} {x7 : Int32} {x8 : Int32} {x9 : Int32} {x10 : Int64} (g : CallFix p m c bk_0_followNeed 14 s args tb Rk_0) (hr : meth.sig.returnType = some .boolean) (hlk : meth.locks = false) (hK : va_K D vwCl (tyC ca) s) (hA : ∀ q, s.heap.size ≤ q → A q) : ∀ (n : Nat) (S : StC) (x12 : Int32) (o : StC ⊕ (Int32 × StC)), L_CX_followNeed_90 x1 x2 x3 x5 x6 x7 x8 x9 x10 n S x12 = some o → (∀ y, o = .inl y → Vj p l e rm_CX_followNeed s m args below meth c (MQ below (qI D vwCl (tyC ca) (wdC ad ca) A Rm) args s 0 0 A) D vwCl A 14 0 0 (wdC ad ca y) 164 [(0, .ref (ad 0)), (1, .int x1), (2, .int x2), (3, .long x3), (5, .int x5), (6, .int x6), (7, .int x7), (8, .int x8), (9, .int x9)] []) → (∀ r, o = .inr r → r = Rm) → Vj p l e rm_CX_followNeed s m args below meth c (MQ below (qI D vwCl (tyC ca) (wdC ad ca) A Rm) args s 0 0 A) D vwCl A 14 0 0 (wdC ad ca S) 90 [(0, .ref (ad 0)), (1, .int x1), (2, .int x2), (3, .long x3), (5, .int x5), (6, .int x6), (7, .int x7), (8, .int x8), (9, .int x9), (10, .long x10), (12, .int x12)] [] := by
  intro n
  induction n with
  | zero => intro S x12 o hf; exact nomatch (show none = some o from hf)
  | succ n ih =>
    intro S x12 o hf hx hret
    rw [L_CX_followNeed_90] at hf
    refine v_iload g dk_0_followNeed_90 10 rfl (pc' := 92) rfl ?_
    refine v_bipush (v := 8) g dk_0_followNeed_92 (by decide) (pc' := 94) rfl ?_
    refine v_icmp_ge (tgt := 164) (pc' := 97) g dk_0_followNeed_94 (by decide) rfl (fun hc => ?_) (fun hc => ?_)
    · replace hf := ifT hc hf
      refine v_sub [0, 1, 2, 3, 4, 5, 6, 7, 8] rfl ?_
      exact hx _ (Option.some.inj hf).symm
    · replace hf := ifF hc hf
      refine v_iload g dk_0_followNeed_97 7 rfl (pc' := 99) rfl ?_
      refine v_iload g dk_0_followNeed_99 10 rfl (pc' := 101) rfl ?_
      obtain ⟨q9, hq, hf⟩ := bnd hf
      refine v_callS_i (As := [.int x8, .int x12]) (rest := []) (r := q9) (S1 := S) g hK hA (c_CX_hasBit hq) (kcC_X_269 g.2.2.2.2 rfl rfl (Nat.le_of_ble_eq_true rfl) (Nat.le_of_ble_eq_true rfl)) rfl rfl (Nat.le_of_ble_eq_true rfl) dk_0_followNeed_101 (Nat.zero_le _) (Nat.zero_le _) (pc' := 104) rfl ?_
      refine v_if_ne (tgt := 110) (pc' := 107) g dk_0_followNeed_104 (by decide) rfl (fun hc => ?_) (fun hc => ?_)
      · replace hf := ifF hc hf
        refine v_aload_n g dk_0_followNeed_110 0 rfl rfl (pc' := 111) rfl ?_
        refine v_aload_n g dk_0_followNeed_111 0 rfl rfl (pc' := 112) rfl ?_
        refine gfC_X_54 g hK dk_0_followNeed_112 (pc' := 115) rfl ?_
        refine gfC_X_307 g hK dk_0_followNeed_115 (pc' := 118) rfl ?_
        refine v_iload_n g dk_0_followNeed_118 2 rfl rfl (pc' := 119) rfl ?_
        obtain ⟨hb10, hf⟩ := grd hf
        refine alC_27 g hK hb10 dk_0_followNeed_119 (pc' := 120) rfl ?_
        refine v_lload g dk_0_followNeed_120 9 rfl (pc' := 122) rfl ?_
        refine v_iload g dk_0_followNeed_122 5 rfl (pc' := 124) rfl ?_
        refine v_iload g dk_0_followNeed_124 10 rfl (pc' := 126) rfl ?_
        obtain ⟨q11, hq, hf⟩ := bnd hf
        refine v_callS_l (As := [.long x10, .int x6, .int x12]) (rest := [.int (gA S 17 x2.toNatClampNeg), .ref (ad 0)]) (r := q11) (S1 := S) g hK hA (c_CX_afterChange hq) (kcC_X_326 g.2.2.2.2 rfl rfl (Nat.le_of_ble_eq_true rfl) (Nat.le_of_ble_eq_true rfl)) rfl rfl (Nat.le_of_ble_eq_true rfl) dk_0_followNeed_126 (Nat.zero_le _) (Nat.zero_le _) (pc' := 129) rfl ?_
        obtain ⟨q12, hq, hf⟩ := bnd hf
        refine v_callV_i (As := [.int (gA S 17 x2.toNatClampNeg), .long q11]) (rest := []) (r := q12.1) (S1 := q12.2) g hK hA (c_CX_pairOf hq) (kcC_X_314 g.2.2.2.2 rfl rfl (Nat.le_of_ble_eq_true rfl) (Nat.le_of_ble_eq_true rfl)) (ci := 0) (q0 := 0) rfl rfl rfl rfl rfl (Nat.le_of_ble_eq_true rfl) dk_0_followNeed_129 (Nat.zero_le _) (Nat.zero_le _) (pc' := 132) rfl ?_
        refine v_istore (lv' := [(13, .int q12.1), (0, .ref (ad 0)), (1, .int x1), (2, .int x2), (3, .long x3), (5, .int x5), (6, .int x6), (7, .int x7), (8, .int x8), (9, .int x9), (10, .long x10), (12, .int x12)]) g dk_0_followNeed_132 (by decide) rfl (pc' := 134) rfl ?_
        refine v_iload g dk_0_followNeed_134 0 rfl (pc' := 136) rfl ?_
        refine v_iconst (v := (-1)) g dk_0_followNeed_136 (by decide) (pc' := 137) rfl ?_
        refine v_icmp_ne (tgt := 142) (pc' := 140) g dk_0_followNeed_137 (by decide) rfl (fun hc => ?_) (fun hc => ?_)
        · replace hf := ifF hc hf
          refine v_aload_n g dk_0_followNeed_142 1 rfl rfl (pc' := 143) rfl ?_
          refine gfC_X_61 g hK dk_0_followNeed_143 (pc' := 146) rfl ?_
          refine gfC_X_329 g hK dk_0_followNeed_146 (pc' := 149) rfl ?_
          refine v_iload_n g dk_0_followNeed_149 2 rfl rfl (pc' := 150) rfl ?_
          refine v_dup2 g dk_0_followNeed_150 rfl rfl (pc' := 151) rfl ?_
          obtain ⟨hb13, hf⟩ := grd hf
          refine alC_35 g hK hb13 dk_0_followNeed_151 (pc' := 152) rfl ?_
          refine v_lconst (v := 1) g dk_0_followNeed_152 (by decide) (pc' := 153) rfl ?_
          refine v_iload g dk_0_followNeed_153 0 rfl (pc' := 155) rfl ?_
          refine v_lshl g dk_0_followNeed_155 (pc' := 156) rfl ?_
          refine v_lor g dk_0_followNeed_156 (pc' := 157) rfl ?_
          refine asC_35 g hK hb13 dk_0_followNeed_157 (pc' := 158) rfl ?_
          refine v_iinc (j := 11) (v := x12 + 1) (lv' := [(12, .int (x12 + 1)), (13, .int q12.1), (0, .ref (ad 0)), (1, .int x1), (2, .int x2), (3, .long x3), (5, .int x5), (6, .int x6), (7, .int x7), (8, .int x8), (9, .int x9), (10, .long x10)]) g dk_0_followNeed_158 rfl rfl (by decide) rfl (pc' := 161) rfl ?_
          refine v_goto (tgt := 90) g dk_0_followNeed_161 (by decide) ?_
          refine v_sub [2, 3, 4, 5, 6, 7, 8, 9, 10, 11, 0] rfl ?_
          exact ih (tB q12.2 2 x1 ((gB q12.2 2 x1.toNatClampNeg) ||| ((1 : Int64) <<< (q12.1.toInt64 &&& 63)))) (x12 + 1) o hf hx hret
        · replace hf := ifT hc hf
          refine v_iconst (v := 0) g dk_0_followNeed_140 (by decide) (pc' := 141) rfl ?_
          exact v_zret g hr hlk hK rfl (hret _ (Option.some.inj hf).symm) dk_0_followNeed_141
      · replace hf := ifT hc hf
        refine v_goto (tgt := 158) g dk_0_followNeed_107 (by decide) ?_
        refine v_iinc (j := 10) (v := x12 + 1) (lv' := [(12, .int (x12 + 1)), (0, .ref (ad 0)), (1, .int x1), (2, .int x2), (3, .long x3), (5, .int x5), (6, .int x6), (7, .int x7), (8, .int x8), (9, .int x9), (10, .long x10)]) g dk_0_followNeed_158 rfl rfl (by decide) rfl (pc' := 161) rfl ?_
        refine v_goto (tgt := 90) g dk_0_followNeed_161 (by decide) ?_
        refine v_sub [1, 2, 3, 4, 5, 6, 7, 8, 9, 10, 0] rfl ?_
        exact ih S (x12 + 1) o hf hx hret
def L_CX_followNeed_57 (x1 : Int32) (x2 : Int32) (x3 : Int64) (x5 : Int32) (x6 : Int32) (x7 : Int32) (x8 : Int32) : Nat → StC → Int32 → Option (StC ⊕ (Int32 × StC))
  | 0, _, _ => none
  | n + 1, S, x9 =>
    if 8 ≤ x9 then some (.inl S)
    else (m_CX_hasBit S x7 x9).bind fun q7 =>
    if q7 = 0 then L_CX_followNeed_57 x1 x2 x3 x5 x6 x7 x8 n S (x9 + 1)
    else (m_CX_afterChange S x3 x5 x9).bind fun q8 =>
    (L_CX_followNeed_90 x1 x2 x3 x5 x6 x7 x8 x9 q8 100 S 0).bind fun o14 => exL o14 fun y15 =>
    L_CX_followNeed_57 x1 x2 x3 x5 x6 x7 x8 n y15 (x9 + 1)
set_option maxHeartbeats 4000000 in
set_option maxRecDepth 100000 in
theorem w_CX_followNeed_57 {p : Program} {l : Launch} {e : Env} {s : State} {m : MethodId} {args : Array Value} {below : List Frame} {meth : Method} {c : Code} {A : Nat → Prop} {D : va_G} {ad : Nat → Nat} {ca : Nat → ClassId} {Rm : Int32 × StC} {x1 : Int32} {x2 : Int32} {x3 : Int64} {x5 : Int32} {x6 : Int32} {x7 : Int32} {x8 : Int32} (g : CallFix p m c bk_0_followNeed 14 s args tb Rk_0) (hr : meth.sig.returnType = some .boolean) (hlk : meth.locks = false) (hK : va_K D vwCl (tyC ca) s) (hA : ∀ q, s.heap.size ≤ q → A q) : ∀ (n : Nat) (S : StC) (x9 : Int32) (o : StC ⊕ (Int32 × StC)), L_CX_followNeed_57 x1 x2 x3 x5 x6 x7 x8 n S x9 = some o → (∀ y, o = .inl y → Vj p l e rm_CX_followNeed s m args below meth c (MQ below (qI D vwCl (tyC ca) (wdC ad ca) A Rm) args s 0 0 A) D vwCl A 14 0 0 (wdC ad ca y) 170 [] []) → (∀ r, o = .inr r → r = Rm) → Vj p l e rm_CX_followNeed s m args below meth c (MQ below (qI D vwCl (tyC ca) (wdC ad ca) A Rm) args s 0 0 A) D vwCl A 14 0 0 (wdC ad ca S) 57 [(0, .ref (ad 0)), (1, .int x1), (2, .int x2), (3, .long x3), (5, .int x5), (6, .int x6), (7, .int x7), (8, .int x8), (9, .int x9)] [] := by
  intro n
  induction n with
  | zero => intro S x9 o hf; exact nomatch (show none = some o from hf)
  | succ n ih =>
    intro S x9 o hf hx hret
    rw [L_CX_followNeed_57] at hf
    refine v_iload g dk_0_followNeed_57 8 rfl (pc' := 59) rfl ?_
    refine v_bipush (v := 8) g dk_0_followNeed_59 (by decide) (pc' := 61) rfl ?_
    refine v_icmp_ge (tgt := 170) (pc' := 64) g dk_0_followNeed_61 (by decide) rfl (fun hc => ?_) (fun hc => ?_)
    · replace hf := ifT hc hf
      refine v_sub [] rfl ?_
      exact hx _ (Option.some.inj hf).symm
    · replace hf := ifF hc hf
      refine v_iload g dk_0_followNeed_64 6 rfl (pc' := 66) rfl ?_
      refine v_iload g dk_0_followNeed_66 8 rfl (pc' := 68) rfl ?_
      obtain ⟨q7, hq, hf⟩ := bnd hf
      refine v_callS_i (As := [.int x7, .int x9]) (rest := []) (r := q7) (S1 := S) g hK hA (c_CX_hasBit hq) (kcC_X_269 g.2.2.2.2 rfl rfl (Nat.le_of_ble_eq_true rfl) (Nat.le_of_ble_eq_true rfl)) rfl rfl (Nat.le_of_ble_eq_true rfl) dk_0_followNeed_68 (Nat.zero_le _) (Nat.zero_le _) (pc' := 71) rfl ?_
      refine v_if_ne (tgt := 77) (pc' := 74) g dk_0_followNeed_71 (by decide) rfl (fun hc => ?_) (fun hc => ?_)
      · replace hf := ifF hc hf
        refine v_lload_n g dk_0_followNeed_77 3 rfl rfl (pc' := 78) rfl ?_
        refine v_iload g dk_0_followNeed_78 4 rfl (pc' := 80) rfl ?_
        refine v_iload g dk_0_followNeed_80 8 rfl (pc' := 82) rfl ?_
        obtain ⟨q8, hq, hf⟩ := bnd hf
        refine v_callS_l (As := [.long x3, .int x5, .int x9]) (rest := []) (r := q8) (S1 := S) g hK hA (c_CX_afterChange hq) (kcC_X_326 g.2.2.2.2 rfl rfl (Nat.le_of_ble_eq_true rfl) (Nat.le_of_ble_eq_true rfl)) rfl rfl (Nat.le_of_ble_eq_true rfl) dk_0_followNeed_82 (Nat.zero_le _) (Nat.zero_le _) (pc' := 85) rfl ?_
        refine v_lstore (lv' := [(10, .long q8), (0, .ref (ad 0)), (1, .int x1), (2, .int x2), (3, .long x3), (5, .int x5), (6, .int x6), (7, .int x7), (8, .int x8), (9, .int x9)]) g dk_0_followNeed_85 (by decide) rfl (pc' := 87) rfl ?_
        refine v_iconst (v := 0) g dk_0_followNeed_87 (by decide) (pc' := 88) rfl ?_
        refine v_istore (lv' := [(12, .int 0), (10, .long q8), (0, .ref (ad 0)), (1, .int x1), (2, .int x2), (3, .long x3), (5, .int x5), (6, .int x6), (7, .int x7), (8, .int x8), (9, .int x9)]) g dk_0_followNeed_88 (by decide) rfl (pc' := 90) rfl ?_
        refine v_sub [2, 3, 4, 5, 6, 7, 8, 9, 10, 1, 0] rfl ?_
        obtain ⟨o14, hL, hf⟩ := bnd hf
        refine w_CX_followNeed_90 g hr hlk hK hA 100 S 0 _ hL (fun y15 hy => ?_) (fun r9 hy => ?_)
        · subst hy
          replace hf := exLl hf
          refine v_iinc (j := 8) (v := x9 + 1) (lv' := [(9, .int (x9 + 1)), (0, .ref (ad 0)), (1, .int x1), (2, .int x2), (3, .long x3), (5, .int x5), (6, .int x6), (7, .int x7), (8, .int x8)]) g dk_0_followNeed_164 rfl rfl (by decide) rfl (pc' := 167) rfl ?_
          refine v_goto (tgt := 57) g dk_0_followNeed_167 (by decide) ?_
          refine v_sub [1, 2, 3, 4, 5, 6, 7, 8, 0] rfl ?_
          exact ih y15 (x9 + 1) o hf hx hret
        · subst hy
          exact hret _ (Option.some.inj hf).symm
      · replace hf := ifT hc hf
        refine v_goto (tgt := 164) g dk_0_followNeed_74 (by decide) ?_
        refine v_iinc (j := 8) (v := x9 + 1) (lv' := [(9, .int (x9 + 1)), (0, .ref (ad 0)), (1, .int x1), (2, .int x2), (3, .long x3), (5, .int x5), (6, .int x6), (7, .int x7), (8, .int x8)]) g dk_0_followNeed_164 rfl rfl (by decide) rfl (pc' := 167) rfl ?_
        refine v_goto (tgt := 57) g dk_0_followNeed_167 (by decide) ?_
        refine v_sub [1, 2, 3, 4, 5, 6, 7, 8, 0] rfl ?_
        exact ih S (x9 + 1) o hf hx hret
def m_CX_followNeed (S : StC) (x1 : Int32) (x2 : Int32) : Option (Int32 × StC) :=
  if inb x1 60 = true then if inb (gA S 22 x1.toNatClampNeg) 60 = true then (m_CX_changedBase S x2 0).bind fun q3 =>
    (m_CX_changedBase S x2 1).bind fun q4 =>
    (m_CX_turnsOf S x2 0 q3).bind fun q5 =>
    (m_CX_turnsOf S x2 1 q4).bind fun q6 =>
    (L_CX_followNeed_57 x1 x2 (gB S 0 (gA S 22 x1.toNatClampNeg).toNatClampNeg) q3 q4 q5 q6 100 S 0).bind fun o16 => exK o16 fun y17 =>
    some (1, y17) else none else none
set_option maxHeartbeats 4000000 in
set_option maxRecDepth 100000 in
theorem c_CX_followNeed {l : Launch} {D : va_G} {ad : Nat → Nat} {ca : Nat → ClassId} {S : StC} {x1 : Int32} {x2 : Int32} {r : Int32 × StC} (hf : m_CX_followNeed S x1 x2 = some r) : KIC l D ad ca yk_0_followNeed (.code yk_0_followNeed bk_0_followNeed 14 (some .boolean) :: tb) rm_CX_followNeed [.ref (ad 0), .int x1, .int x2] S r := by
  refine met_z (by decide) (Nat.le_of_ble_eq_true rfl) (fun p e s m below meth c A g hr hlk hK hA => ?_)
  replace g : CallFix p m c bk_0_followNeed 14 s _ tb Rk_0 := g
  refine v_lv (lv' := [(0, .ref (ad 0)), (1, .int x1), (2, .int x2)]) rfl ?_
  unfold m_CX_followNeed at hf
  refine v_aload_n g dk_0_followNeed_0 0 rfl rfl (pc' := 1) rfl ?_
  refine gfC_X_26 g hK dk_0_followNeed_1 (pc' := 4) rfl ?_
  refine gfC_X_165 g hK dk_0_followNeed_4 (pc' := 7) rfl ?_
  refine v_aload_n g dk_0_followNeed_7 0 rfl rfl (pc' := 8) rfl ?_
  refine gfC_X_61 g hK dk_0_followNeed_8 (pc' := 11) rfl ?_
  refine gfC_X_230 g hK dk_0_followNeed_11 (pc' := 14) rfl ?_
  refine v_iload_n g dk_0_followNeed_14 1 rfl rfl (pc' := 15) rfl ?_
  obtain ⟨hb1, hf⟩ := grd hf
  refine alC_33 g hK hb1 dk_0_followNeed_15 (pc' := 16) rfl ?_
  obtain ⟨hb2, hf⟩ := grd hf
  refine alC_8 g hK hb2 dk_0_followNeed_16 (pc' := 17) rfl ?_
  refine v_lstore_n (lv' := [(3, .long (gB S 0 (gA S 22 x1.toNatClampNeg).toNatClampNeg)), (0, .ref (ad 0)), (1, .int x1), (2, .int x2)]) g dk_0_followNeed_17 rfl (by decide) rfl (pc' := 18) rfl ?_
  refine v_aload_n g dk_0_followNeed_18 1 rfl rfl (pc' := 19) rfl ?_
  refine v_iload_n g dk_0_followNeed_19 3 rfl rfl (pc' := 20) rfl ?_
  refine v_iconst (v := 0) g dk_0_followNeed_20 (by decide) (pc' := 21) rfl ?_
  obtain ⟨q3, hq, hf⟩ := bnd hf
  refine v_callV_i (As := [.int x2, .int 0]) (rest := []) (r := q3) (S1 := S) g hK hA (c_CX_changedBase hq) (kcC_X_320 g.2.2.2.2 rfl rfl (Nat.le_of_ble_eq_true rfl) (Nat.le_of_ble_eq_true rfl)) (ci := 0) (q0 := 0) rfl rfl rfl rfl rfl (Nat.le_of_ble_eq_true rfl) dk_0_followNeed_21 (Nat.zero_le _) (Nat.zero_le _) (pc' := 24) rfl ?_
  refine v_istore (lv' := [(5, .int q3), (3, .long (gB S 0 (gA S 22 x1.toNatClampNeg).toNatClampNeg)), (0, .ref (ad 0)), (1, .int x1), (2, .int x2)]) g dk_0_followNeed_24 (by decide) rfl (pc' := 26) rfl ?_
  refine v_aload_n g dk_0_followNeed_26 2 rfl rfl (pc' := 27) rfl ?_
  refine v_iload_n g dk_0_followNeed_27 4 rfl rfl (pc' := 28) rfl ?_
  refine v_iconst (v := 1) g dk_0_followNeed_28 (by decide) (pc' := 29) rfl ?_
  obtain ⟨q4, hq, hf⟩ := bnd hf
  refine v_callV_i (As := [.int x2, .int 1]) (rest := []) (r := q4) (S1 := S) g hK hA (c_CX_changedBase hq) (kcC_X_320 g.2.2.2.2 rfl rfl (Nat.le_of_ble_eq_true rfl) (Nat.le_of_ble_eq_true rfl)) (ci := 0) (q0 := 0) rfl rfl rfl rfl rfl (Nat.le_of_ble_eq_true rfl) dk_0_followNeed_29 (Nat.zero_le _) (Nat.zero_le _) (pc' := 32) rfl ?_
  refine v_istore (lv' := [(6, .int q4), (5, .int q3), (3, .long (gB S 0 (gA S 22 x1.toNatClampNeg).toNatClampNeg)), (0, .ref (ad 0)), (1, .int x1), (2, .int x2)]) g dk_0_followNeed_32 (by decide) rfl (pc' := 34) rfl ?_
  refine v_aload_n g dk_0_followNeed_34 3 rfl rfl (pc' := 35) rfl ?_
  refine v_iload_n g dk_0_followNeed_35 5 rfl rfl (pc' := 36) rfl ?_
  refine v_iconst (v := 0) g dk_0_followNeed_36 (by decide) (pc' := 37) rfl ?_
  refine v_iload g dk_0_followNeed_37 1 rfl (pc' := 39) rfl ?_
  obtain ⟨q5, hq, hf⟩ := bnd hf
  refine v_callV_i (As := [.int x2, .int 0, .int q3]) (rest := []) (r := q5) (S1 := S) g hK hA (c_CX_turnsOf hq) (kcC_X_323 g.2.2.2.2 rfl rfl (Nat.le_of_ble_eq_true rfl) (Nat.le_of_ble_eq_true rfl)) (ci := 0) (q0 := 0) rfl rfl rfl rfl rfl (Nat.le_of_ble_eq_true rfl) dk_0_followNeed_39 (Nat.zero_le _) (Nat.zero_le _) (pc' := 42) rfl ?_
  refine v_istore (lv' := [(7, .int q5), (6, .int q4), (5, .int q3), (3, .long (gB S 0 (gA S 22 x1.toNatClampNeg).toNatClampNeg)), (0, .ref (ad 0)), (1, .int x1), (2, .int x2)]) g dk_0_followNeed_42 (by decide) rfl (pc' := 44) rfl ?_
  refine v_aload_n g dk_0_followNeed_44 4 rfl rfl (pc' := 45) rfl ?_
  refine v_iload_n g dk_0_followNeed_45 6 rfl rfl (pc' := 46) rfl ?_
  refine v_iconst (v := 1) g dk_0_followNeed_46 (by decide) (pc' := 47) rfl ?_
  refine v_iload g dk_0_followNeed_47 1 rfl (pc' := 49) rfl ?_
  obtain ⟨q6, hq, hf⟩ := bnd hf
  refine v_callV_i (As := [.int x2, .int 1, .int q4]) (rest := []) (r := q6) (S1 := S) g hK hA (c_CX_turnsOf hq) (kcC_X_323 g.2.2.2.2 rfl rfl (Nat.le_of_ble_eq_true rfl) (Nat.le_of_ble_eq_true rfl)) (ci := 0) (q0 := 0) rfl rfl rfl rfl rfl (Nat.le_of_ble_eq_true rfl) dk_0_followNeed_49 (Nat.zero_le _) (Nat.zero_le _) (pc' := 52) rfl ?_
  refine v_istore (lv' := [(8, .int q6), (7, .int q5), (6, .int q4), (5, .int q3), (3, .long (gB S 0 (gA S 22 x1.toNatClampNeg).toNatClampNeg)), (0, .ref (ad 0)), (1, .int x1), (2, .int x2)]) g dk_0_followNeed_52 (by decide) rfl (pc' := 54) rfl ?_
  refine v_iconst (v := 0) g dk_0_followNeed_54 (by decide) (pc' := 55) rfl ?_
  refine v_istore (lv' := [(9, .int 0), (8, .int q6), (7, .int q5), (6, .int q4), (5, .int q3), (3, .long (gB S 0 (gA S 22 x1.toNatClampNeg).toNatClampNeg)), (0, .ref (ad 0)), (1, .int x1), (2, .int x2)]) g dk_0_followNeed_55 (by decide) rfl (pc' := 57) rfl ?_
  refine v_sub [6, 7, 8, 5, 4, 3, 2, 1, 0] rfl ?_
  obtain ⟨o16, hL, hf⟩ := bnd hf
  refine w_CX_followNeed_57 g hr hlk hK hA 100 S 0 _ hL (fun y17 hy => ?_) (fun r9 hy => ?_)
  · subst hy
    replace hf := exKl hf
    refine v_iconst (v := 1) g dk_0_followNeed_170 (by decide) (pc' := 171) rfl ?_
    exact v_zret g hr hlk hK rfl (Option.some.inj hf) dk_0_followNeed_171
  · subst hy
    exact Option.some.inj hf
abbrev rm_CX_findPairs : Room := { frames := 4, cells := 0, slots := 0, locals := 107 }
def L_CX_findPairs_37 (x4 : Int32) : Nat → StC → Int32 → Option (StC ⊕ (Int32 × StC))
  | 0, _, _ => none
  | n + 1, S, x5 =>
    if (gI S 6) ≤ x5 then some (.inl S)
    else if inb x5 40 = true then if inb x4 60 = true then if (gA S 16 x5.toNatClampNeg) = (gA S 21 x4.toNatClampNeg) then (m_CX_followNeed S x4 x5).bind fun q4 =>
    if q4.1 = 0 then some (.inr (0, q4.2))
    else L_CX_findPairs_37 x4 n q4.2 (x5 + 1)
    else L_CX_findPairs_37 x4 n S (x5 + 1) else none else none
set_option maxHeartbeats 4000000 in
set_option maxRecDepth 100000 in
theorem w_CX_findPairs_37 {p : Program} {l : Launch} {e : Env} {s : State} {m : MethodId} {args : Array Value} {below : List Frame} {meth : Method} {c : Code} {A : Nat → Prop} {D : va_G} {ad : Nat → Nat} {ca : Nat → ClassId} {Rm : Int32 × StC} {x4 : Int32} (g : CallFix p m c bk_0_findPairs 6 s args tb Rk_0) (hr : meth.sig.returnType = some .boolean) (hlk : meth.locks = false) (hK : va_K D vwCl (tyC ca) s) (hA : ∀ q, s.heap.size ≤ q → A q) : ∀ (n : Nat) (S : StC) (x5 : Int32) (o : StC ⊕ (Int32 × StC)), L_CX_findPairs_37 x4 n S x5 = some o → (∀ y, o = .inl y → Vj p l e rm_CX_findPairs s m args below meth c (MQ below (qI D vwCl (tyC ca) (wdC ad ca) A Rm) args s 0 0 A) D vwCl A 6 0 0 (wdC ad ca y) 91 [(0, .ref (ad 0)), (4, .int x4)] []) → (∀ r, o = .inr r → r = Rm) → Vj p l e rm_CX_findPairs s m args below meth c (MQ below (qI D vwCl (tyC ca) (wdC ad ca) A Rm) args s 0 0 A) D vwCl A 6 0 0 (wdC ad ca S) 37 [(0, .ref (ad 0)), (4, .int x4), (5, .int x5)] [] := by
  intro n
  induction n with
  | zero => intro S x5 o hf; exact nomatch (show none = some o from hf)
  | succ n ih =>
    intro S x5 o hf hx hret
    rw [L_CX_findPairs_37] at hf
    refine v_iload g dk_0_findPairs_37 2 rfl (pc' := 39) rfl ?_
    refine v_aload_n g dk_0_findPairs_39 0 rfl rfl (pc' := 40) rfl ?_
    refine gfC_X_54 g hK dk_0_findPairs_40 (pc' := 43) rfl ?_
    refine gfC_X_305 g hK dk_0_findPairs_43 (pc' := 46) rfl ?_
    refine v_icmp_ge (tgt := 91) (pc' := 49) g dk_0_findPairs_46 (by decide) rfl (fun hc => ?_) (fun hc => ?_)
    · replace hf := ifT hc hf
      refine v_sub [0, 1] rfl ?_
      exact hx _ (Option.some.inj hf).symm
    · replace hf := ifF hc hf
      refine v_aload_n g dk_0_findPairs_49 0 rfl rfl (pc' := 50) rfl ?_
      refine gfC_X_54 g hK dk_0_findPairs_50 (pc' := 53) rfl ?_
      refine gfC_X_306 g hK dk_0_findPairs_53 (pc' := 56) rfl ?_
      refine v_iload g dk_0_findPairs_56 2 rfl (pc' := 58) rfl ?_
      obtain ⟨hb2, hf⟩ := grd hf
      refine alC_26 g hK hb2 dk_0_findPairs_58 (pc' := 59) rfl ?_
      refine v_aload_n g dk_0_findPairs_59 0 rfl rfl (pc' := 60) rfl ?_
      refine gfC_X_61 g hK dk_0_findPairs_60 (pc' := 63) rfl ?_
      refine gfC_X_227 g hK dk_0_findPairs_63 (pc' := 66) rfl ?_
      refine v_iload g dk_0_findPairs_66 1 rfl (pc' := 68) rfl ?_
      obtain ⟨hb3, hf⟩ := grd hf
      refine alC_32 g hK hb3 dk_0_findPairs_68 (pc' := 69) rfl ?_
      refine v_icmp_ne (tgt := 85) (pc' := 72) g dk_0_findPairs_69 (by decide) rfl (fun hc => ?_) (fun hc => ?_)
      · replace hf := ifF hc hf
        refine v_iinc (j := 2) (v := x5 + 1) (lv' := [(5, .int (x5 + 1)), (0, .ref (ad 0)), (4, .int x4)]) g dk_0_findPairs_85 rfl rfl (by decide) rfl (pc' := 88) rfl ?_
        refine v_goto (tgt := 37) g dk_0_findPairs_88 (by decide) ?_
        refine v_sub [1, 2, 0] rfl ?_
        exact ih S (x5 + 1) o hf hx hret
      · replace hf := ifT hc hf
        refine v_aload_n g dk_0_findPairs_72 0 rfl rfl (pc' := 73) rfl ?_
        refine v_iload g dk_0_findPairs_73 1 rfl (pc' := 75) rfl ?_
        refine v_iload g dk_0_findPairs_75 2 rfl (pc' := 77) rfl ?_
        obtain ⟨q4, hq, hf⟩ := bnd hf
        refine v_callV_i (As := [.int x4, .int x5]) (rest := []) (r := q4.1) (S1 := q4.2) g hK hA (c_CX_followNeed hq) (kcC_X_317 g.2.2.2.2 rfl rfl (Nat.le_of_ble_eq_true rfl) (Nat.le_of_ble_eq_true rfl)) (ci := 0) (q0 := 0) rfl rfl rfl rfl rfl (Nat.le_of_ble_eq_true rfl) dk_0_findPairs_77 (Nat.zero_le _) (Nat.zero_le _) (pc' := 80) rfl ?_
        refine v_if_ne (tgt := 85) (pc' := 83) g dk_0_findPairs_80 (by decide) rfl (fun hc => ?_) (fun hc => ?_)
        · replace hf := ifF hc hf
          refine v_iinc (j := 2) (v := x5 + 1) (lv' := [(5, .int (x5 + 1)), (0, .ref (ad 0)), (4, .int x4)]) g dk_0_findPairs_85 rfl rfl (by decide) rfl (pc' := 88) rfl ?_
          refine v_goto (tgt := 37) g dk_0_findPairs_88 (by decide) ?_
          refine v_sub [1, 2, 0] rfl ?_
          exact ih q4.2 (x5 + 1) o hf hx hret
        · replace hf := ifT hc hf
          refine v_iconst (v := 0) g dk_0_findPairs_83 (by decide) (pc' := 84) rfl ?_
          exact v_zret g hr hlk hK rfl (hret _ (Option.some.inj hf).symm) dk_0_findPairs_84
def L_CX_findPairs_15 : Nat → StC → Int32 → Option (StC ⊕ (Int32 × StC))
  | 0, _, _ => none
  | n + 1, S, x4 =>
    if 60 ≤ x4 then some (.inl S)
    else if (gI S 7) ≤ x4 then some (.inl S)
    else (L_CX_findPairs_37 x4 100 S 0).bind fun o5 => exL o5 fun y6 =>
    L_CX_findPairs_15 n y6 (x4 + 1)
set_option maxHeartbeats 4000000 in
set_option maxRecDepth 100000 in
theorem w_CX_findPairs_15 {p : Program} {l : Launch} {e : Env} {s : State} {m : MethodId} {args : Array Value} {below : List Frame} {meth : Method} {c : Code} {A : Nat → Prop} {D : va_G} {ad : Nat → Nat} {ca : Nat → ClassId} {Rm : Int32 × StC} (g : CallFix p m c bk_0_findPairs 6 s args tb Rk_0) (hr : meth.sig.returnType = some .boolean) (hlk : meth.locks = false) (hK : va_K D vwCl (tyC ca) s) (hA : ∀ q, s.heap.size ≤ q → A q) : ∀ (n : Nat) (S : StC) (x4 : Int32) (o : StC ⊕ (Int32 × StC)), L_CX_findPairs_15 n S x4 = some o → (∀ y, o = .inl y → Vj p l e rm_CX_findPairs s m args below meth c (MQ below (qI D vwCl (tyC ca) (wdC ad ca) A Rm) args s 0 0 A) D vwCl A 6 0 0 (wdC ad ca y) 97 [] []) → (∀ r, o = .inr r → r = Rm) → Vj p l e rm_CX_findPairs s m args below meth c (MQ below (qI D vwCl (tyC ca) (wdC ad ca) A Rm) args s 0 0 A) D vwCl A 6 0 0 (wdC ad ca S) 15 [(0, .ref (ad 0)), (4, .int x4)] [] := by
  intro n
  induction n with
  | zero => intro S x4 o hf; exact nomatch (show none = some o from hf)
  | succ n ih =>
    intro S x4 o hf hx hret
    rw [L_CX_findPairs_15] at hf
    refine v_iload g dk_0_findPairs_15 1 rfl (pc' := 17) rfl ?_
    refine v_bipush (v := 60) g dk_0_findPairs_17 (by decide) (pc' := 19) rfl ?_
    refine v_icmp_ge (tgt := 97) (pc' := 22) g dk_0_findPairs_19 (by decide) rfl (fun hc => ?_) (fun hc => ?_)
    · replace hf := ifT hc hf
      refine v_sub [] rfl ?_
      exact hx _ (Option.some.inj hf).symm
    · replace hf := ifF hc hf
      refine v_iload g dk_0_findPairs_22 1 rfl (pc' := 24) rfl ?_
      refine v_aload_n g dk_0_findPairs_24 0 rfl rfl (pc' := 25) rfl ?_
      refine gfC_X_61 g hK dk_0_findPairs_25 (pc' := 28) rfl ?_
      refine gfC_X_222 g hK dk_0_findPairs_28 (pc' := 31) rfl ?_
      refine v_icmp_ge (tgt := 97) (pc' := 34) g dk_0_findPairs_31 (by decide) rfl (fun hc => ?_) (fun hc => ?_)
      · replace hf := ifT hc hf
        refine v_sub [] rfl ?_
        exact hx _ (Option.some.inj hf).symm
      · replace hf := ifF hc hf
        refine v_iconst (v := 0) g dk_0_findPairs_34 (by decide) (pc' := 35) rfl ?_
        refine v_istore (lv' := [(5, .int 0), (0, .ref (ad 0)), (4, .int x4)]) g dk_0_findPairs_35 (by decide) rfl (pc' := 37) rfl ?_
        refine v_sub [1, 2, 0] rfl ?_
        obtain ⟨o5, hL, hf⟩ := bnd hf
        refine w_CX_findPairs_37 g hr hlk hK hA 100 S 0 _ hL (fun y6 hy => ?_) (fun r9 hy => ?_)
        · subst hy
          replace hf := exLl hf
          refine v_iinc (j := 1) (v := x4 + 1) (lv' := [(4, .int (x4 + 1)), (0, .ref (ad 0))]) g dk_0_findPairs_91 rfl rfl (by decide) rfl (pc' := 94) rfl ?_
          refine v_goto (tgt := 15) g dk_0_findPairs_94 (by decide) ?_
          refine v_sub [1, 0] rfl ?_
          exact ih y6 (x4 + 1) o hf hx hret
        · subst hy
          exact hret _ (Option.some.inj hf).symm
def m_CX_findPairs (S : StC) (x1 : Int32) (x2 : Int64) : Option (Int32 × StC) :=
  (m_CX_pairOf S x1 x2).bind fun q1 =>
    if q1.1 = (-1) then some (0, q1.2)
    else (L_CX_findPairs_15 100 q1.2 0).bind fun o7 => exK o7 fun y8 =>
    some (1, y8)
set_option maxHeartbeats 4000000 in
set_option maxRecDepth 100000 in
theorem c_CX_findPairs {l : Launch} {D : va_G} {ad : Nat → Nat} {ca : Nat → ClassId} {S : StC} {x1 : Int32} {x2 : Int64} {r : Int32 × StC} (hf : m_CX_findPairs S x1 x2 = some r) : KIC l D ad ca yk_0_findPairs (.code yk_0_findPairs bk_0_findPairs 6 (some .boolean) :: tb) rm_CX_findPairs [.ref (ad 0), .int x1, .long x2] S r := by
  refine met_z (by decide) (Nat.le_of_ble_eq_true rfl) (fun p e s m below meth c A g hr hlk hK hA => ?_)
  replace g : CallFix p m c bk_0_findPairs 6 s _ tb Rk_0 := g
  refine v_lv (lv' := [(0, .ref (ad 0)), (1, .int x1), (2, .long x2)]) rfl ?_
  unfold m_CX_findPairs at hf
  refine v_aload_n g dk_0_findPairs_0 0 rfl rfl (pc' := 1) rfl ?_
  refine v_iload_n g dk_0_findPairs_1 1 rfl rfl (pc' := 2) rfl ?_
  refine v_lload_n g dk_0_findPairs_2 2 rfl rfl (pc' := 3) rfl ?_
  obtain ⟨q1, hq, hf⟩ := bnd hf
  refine v_callV_i (As := [.int x1, .long x2]) (rest := []) (r := q1.1) (S1 := q1.2) g hK hA (c_CX_pairOf hq) (kcC_X_314 g.2.2.2.2 rfl rfl (Nat.le_of_ble_eq_true rfl) (Nat.le_of_ble_eq_true rfl)) (ci := 0) (q0 := 0) rfl rfl rfl rfl rfl (Nat.le_of_ble_eq_true rfl) dk_0_findPairs_3 (Nat.zero_le _) (Nat.zero_le _) (pc' := 6) rfl ?_
  refine v_iconst (v := (-1)) g dk_0_findPairs_6 (by decide) (pc' := 7) rfl ?_
  refine v_icmp_ne (tgt := 12) (pc' := 10) g dk_0_findPairs_7 (by decide) rfl (fun hc => ?_) (fun hc => ?_)
  · replace hf := ifF hc hf
    refine v_iconst (v := 0) g dk_0_findPairs_12 (by decide) (pc' := 13) rfl ?_
    refine v_istore (lv' := [(4, .int 0), (0, .ref (ad 0)), (1, .int x1), (2, .long x2)]) g dk_0_findPairs_13 (by decide) rfl (pc' := 15) rfl ?_
    refine v_sub [1, 0] rfl ?_
    obtain ⟨o7, hL, hf⟩ := bnd hf
    refine w_CX_findPairs_15 g hr hlk hK hA 100 q1.2 0 _ hL (fun y8 hy => ?_) (fun r9 hy => ?_)
    · subst hy
      replace hf := exKl hf
      refine v_iconst (v := 1) g dk_0_findPairs_97 (by decide) (pc' := 98) rfl ?_
      exact v_zret g hr hlk hK rfl (Option.some.inj hf) dk_0_findPairs_98
    · subst hy
      exact Option.some.inj hf
  · replace hf := ifT hc hf
    refine v_iconst (v := 0) g dk_0_findPairs_10 (by decide) (pc' := 11) rfl ?_
    exact v_zret g hr hlk hK rfl (Option.some.inj hf) dk_0_findPairs_11
