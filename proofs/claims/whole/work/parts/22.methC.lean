abbrev rm_CChoices_areAlike : Room := { frames := 1, cells := 0, slots := 0, locals := 21 }
def m_CChoices_areAlike (S : StC) (x0 : Int64) (x2 : Int64) : Option Int32 :=
  (m_CChoices_kindOf S x0).bind fun q1 =>
    (m_CChoices_kindOf S x2).bind fun q2 =>
    if q1 = q2 then (m_CChoices_kindOf S x0).bind fun q3 =>
    if q3 = 1 then if (lg_cmp x0 x2) = 0 then some 1
    else some 0
    else some 1
    else some 0
set_option maxHeartbeats 4000000 in
set_option maxRecDepth 100000 in
theorem c_CChoices_areAlike {l : Launch} {D : va_G} {ad : Nat → Nat} {ca : Nat → ClassId} {S : StC} {x0 : Int64} {x2 : Int64} {r : Int32} (hf : m_CChoices_areAlike S x0 x2 = some r) : KIC l D ad ca yk_3_areAlike (.code yk_3_areAlike bk_3_areAlike 4 (some .boolean) :: tb) rm_CChoices_areAlike [.long x0, .long x2] S (r, S) := by
  refine met_z (by decide) (Nat.le_of_ble_eq_true rfl) (fun p e s m below meth c A g hr hlk hK hA => ?_)
  replace g : CallFix p m c bk_3_areAlike 4 s _ tb Rk_3 := g
  refine v_lv (lv' := [(0, .long x0), (2, .long x2)]) rfl ?_
  unfold m_CChoices_areAlike at hf
  refine v_lload_n g dk_3_areAlike_0 0 rfl rfl (pc' := 1) rfl ?_
  obtain ⟨q1, hq, hf⟩ := bnd hf
  refine v_callS_i (As := [.long x0]) (rest := []) (r := q1) (S1 := S) g hK hA (c_CChoices_kindOf hq) (kcC_Choices_17 g.2.2.2.2 rfl rfl (Nat.le_of_ble_eq_true rfl) (Nat.le_of_ble_eq_true rfl)) rfl rfl (Nat.le_of_ble_eq_true rfl) dk_3_areAlike_1 (Nat.zero_le _) (Nat.zero_le _) (pc' := 4) rfl ?_
  refine v_lload_n g dk_3_areAlike_4 1 rfl rfl (pc' := 5) rfl ?_
  obtain ⟨q2, hq, hf⟩ := bnd hf
  refine v_callS_i (As := [.long x2]) (rest := [.int q1]) (r := q2) (S1 := S) g hK hA (c_CChoices_kindOf hq) (kcC_Choices_17 g.2.2.2.2 rfl rfl (Nat.le_of_ble_eq_true rfl) (Nat.le_of_ble_eq_true rfl)) rfl rfl (Nat.le_of_ble_eq_true rfl) dk_3_areAlike_5 (Nat.zero_le _) (Nat.zero_le _) (pc' := 8) rfl ?_
  refine v_icmp_ne (tgt := 29) (pc' := 11) g dk_3_areAlike_8 (by decide) rfl (fun hc => ?_) (fun hc => ?_)
  · replace hf := ifF hc hf
    refine v_iconst (v := 0) g dk_3_areAlike_29 (by decide) (pc' := 30) rfl ?_
    exact v_zret g hr hlk hK rfl (pinj hf) dk_3_areAlike_30
  · replace hf := ifT hc hf
    refine v_lload_n g dk_3_areAlike_11 0 rfl rfl (pc' := 12) rfl ?_
    obtain ⟨q3, hq, hf⟩ := bnd hf
    refine v_callS_i (As := [.long x0]) (rest := []) (r := q3) (S1 := S) g hK hA (c_CChoices_kindOf hq) (kcC_Choices_17 g.2.2.2.2 rfl rfl (Nat.le_of_ble_eq_true rfl) (Nat.le_of_ble_eq_true rfl)) rfl rfl (Nat.le_of_ble_eq_true rfl) dk_3_areAlike_12 (Nat.zero_le _) (Nat.zero_le _) (pc' := 15) rfl ?_
    refine v_iconst (v := 1) g dk_3_areAlike_15 (by decide) (pc' := 16) rfl ?_
    refine v_icmp_ne (tgt := 25) (pc' := 19) g dk_3_areAlike_16 (by decide) rfl (fun hc => ?_) (fun hc => ?_)
    · replace hf := ifF hc hf
      refine v_iconst (v := 1) g dk_3_areAlike_25 (by decide) (pc' := 26) rfl ?_
      refine v_goto (tgt := 30) g dk_3_areAlike_26 (by decide) ?_
      exact v_zret g hr hlk hK rfl (pinj hf) dk_3_areAlike_30
    · replace hf := ifT hc hf
      refine v_lload_n g dk_3_areAlike_19 0 rfl rfl (pc' := 20) rfl ?_
      refine v_lload_n g dk_3_areAlike_20 1 rfl rfl (pc' := 21) rfl ?_
      refine v_lcmp g dk_3_areAlike_21 (pc' := 22) rfl ?_
      refine v_if_ne (tgt := 29) (pc' := 25) g dk_3_areAlike_22 (by decide) rfl (fun hc => ?_) (fun hc => ?_)
      · replace hf := ifF hc hf
        refine v_iconst (v := 0) g dk_3_areAlike_29 (by decide) (pc' := 30) rfl ?_
        exact v_zret g hr hlk hK rfl (pinj hf) dk_3_areAlike_30
      · replace hf := ifT hc hf
        refine v_iconst (v := 1) g dk_3_areAlike_25 (by decide) (pc' := 26) rfl ?_
        refine v_goto (tgt := 30) g dk_3_areAlike_26 (by decide) ?_
        exact v_zret g hr hlk hK rfl (pinj hf) dk_3_areAlike_30
abbrev rm_CChoices_ofClash : Room := { frames := 0, cells := 0, slots := 0, locals := 0 }
def m_CChoices_ofClash (S : StC) (x0 : Int32) (x1 : Int32) : Option Int64 :=
  some ((8589934592 : Int64) ||| (((x0 * (8 : Int32)) + x1).toInt64))
set_option maxHeartbeats 4000000 in
set_option maxRecDepth 100000 in
theorem c_CChoices_ofClash {l : Launch} {D : va_G} {ad : Nat → Nat} {ca : Nat → ClassId} {S : StC} {x0 : Int32} {x1 : Int32} {r : Int64} (hf : m_CChoices_ofClash S x0 x1 = some r) : KLC l D ad ca yk_3_ofClash (.code yk_3_ofClash bk_3_ofClash 2 (some .long) :: tb) rm_CChoices_ofClash [.int x0, .int x1] S (r, S) := by
  refine met_l (by decide) (Nat.le_of_ble_eq_true rfl) (fun p e s m below meth c A g hr hlk hK hA => ?_)
  replace g : CallFix p m c bk_3_ofClash 2 s _ tb Rk_3 := g
  refine v_lv (lv' := [(0, .int x0), (1, .int x1)]) rfl ?_
  unfold m_CChoices_ofClash at hf
  refine v_ldc2 g dk_3_ofClash_0 lcC_Choices_15 (pc' := 3) rfl ?_
  refine v_iload_n g dk_3_ofClash_3 0 rfl rfl (pc' := 4) rfl ?_
  refine v_bipush (v := 8) g dk_3_ofClash_4 (by decide) (pc' := 6) rfl ?_
  refine v_imul g dk_3_ofClash_6 (pc' := 7) rfl ?_
  refine v_iload_n g dk_3_ofClash_7 1 rfl rfl (pc' := 8) rfl ?_
  refine v_iadd g dk_3_ofClash_8 (pc' := 9) rfl ?_
  refine v_i2l g dk_3_ofClash_9 (pc' := 10) rfl ?_
  refine v_lor g dk_3_ofClash_10 (pc' := 11) rfl ?_
  exact v_lret g hr hlk hK  (pinj hf) dk_3_ofClash_11
abbrev rm_CX_choosing_0 : Room := { frames := 5, cells := 0, slots := 0, locals := 120 }
def L_CX_choosing_0_39 (S : StC) (x1 : Int32) (x2 : Int64) (x4 : Int32) (x5 : Int32) : Nat → Int32 → Int64 → Int32 → Option (Int64 ⊕ Int64)
  | 0, _, _, _ => none
  | n + 1, x6, x7, x9 =>
    if inb x1 24 = true then if (gA S 12 x1.toNatClampNeg) ≤ x9 then some (.inl x7)
    else (m_CX_hasBit S x5 x9).bind fun q5 =>
    if q5 = 0 then L_CX_choosing_0_39 S x1 x2 x4 x5 n x6 x7 (x9 + 1)
    else (m_CSelects_place S x1 x9).bind fun q6 =>
    (m_CX_givenBy_0 S q6 x2 x4).bind fun q7 =>
    if x6 = (-1) then L_CX_choosing_0_39 S x1 x2 x4 x5 n x9 q7 (x9 + 1)
    else (m_CChoices_areAlike S x7 q7).bind fun q8 =>
    if q8 = 0 then (m_CChoices_ofClash S x6 x9).bind fun q9 =>
    some (.inr q9)
    else L_CX_choosing_0_39 S x1 x2 x4 x5 n x6 x7 (x9 + 1) else none
set_option maxHeartbeats 4000000 in
set_option maxRecDepth 100000 in
theorem w_CX_choosing_0_39 {p : Program} {l : Launch} {e : Env} {s : State} {m : MethodId} {args : Array Value} {below : List Frame} {meth : Method} {c : Code} {A : Nat → Prop} {D : va_G} {ad : Nat → Nat} {ca : Nat → ClassId} {Rm : Int64 × StC} {S : StC} {x1 : Int32} {x2 : Int64} {x4 : Int32} {x5 : Int32} (g : CallFix p m c bk_0_choosing 12 s args tb Rk_0) (hr : meth.sig.returnType = some .long) (hlk : meth.locks = false) (hK : va_K D vwCl (tyC ca) s) (hA : ∀ q, s.heap.size ≤ q → A q) : ∀ (n : Nat) (x6 : Int32) (x7 : Int64) (x9 : Int32) (o : Int64 ⊕ Int64), L_CX_choosing_0_39 S x1 x2 x4 x5 n x6 x7 x9 = some o → (∀ y, o = .inl y → Vj p l e rm_CX_choosing_0 s m args below meth c (MQ below (qL D vwCl (tyC ca) (wdC ad ca) A Rm) args s 0 0 A) D vwCl A 12 0 0 (wdC ad ca S) 122 [(7, .long y)] []) → (∀ r, o = .inr r → (r, S) = Rm) → Vj p l e rm_CX_choosing_0 s m args below meth c (MQ below (qL D vwCl (tyC ca) (wdC ad ca) A Rm) args s 0 0 A) D vwCl A 12 0 0 (wdC ad ca S) 39 [(0, .ref (ad 0)), (1, .int x1), (2, .long x2), (4, .int x4), (5, .int x5), (6, .int x6), (7, .long x7), (9, .int x9)] [] := by
  intro n
  induction n with
  | zero => intro x6 x7 x9 o hf; exact nomatch (show none = some o from hf)
  | succ n ih =>
    intro x6 x7 x9 o hf hx hret
    rw [L_CX_choosing_0_39] at hf
    refine v_iload g dk_0_choosing_39 7 rfl (pc' := 41) rfl ?_
    refine v_aload_n g dk_0_choosing_41 0 rfl rfl (pc' := 42) rfl ?_
    refine gfC_X_47 g hK dk_0_choosing_42 (pc' := 45) rfl ?_
    refine gfC_X_266 g hK dk_0_choosing_45 (pc' := 48) rfl ?_
    refine v_iload_n g dk_0_choosing_48 1 rfl rfl (pc' := 49) rfl ?_
    obtain ⟨hb4, hf⟩ := grd hf
    refine alC_21 g hK hb4 dk_0_choosing_49 (pc' := 50) rfl ?_
    refine v_icmp_ge (tgt := 122) (pc' := 53) g dk_0_choosing_50 (by decide) rfl (fun hc => ?_) (fun hc => ?_)
    · replace hf := ifT hc hf
      refine v_sub [6] rfl ?_
      exact hx _ (Option.some.inj hf).symm
    · replace hf := ifF hc hf
      refine v_iload g dk_0_choosing_53 4 rfl (pc' := 55) rfl ?_
      refine v_iload g dk_0_choosing_55 7 rfl (pc' := 57) rfl ?_
      obtain ⟨q5, hq, hf⟩ := bnd hf
      refine v_callS_i (As := [.int x5, .int x9]) (rest := []) (r := q5) (S1 := S) g hK hA (c_CX_hasBit hq) (kcC_X_269 g.2.2.2.2 rfl rfl (Nat.le_of_ble_eq_true rfl) (Nat.le_of_ble_eq_true rfl)) rfl rfl (Nat.le_of_ble_eq_true rfl) dk_0_choosing_57 (Nat.zero_le _) (Nat.zero_le _) (pc' := 60) rfl ?_
      refine v_if_ne (tgt := 66) (pc' := 63) g dk_0_choosing_60 (by decide) rfl (fun hc => ?_) (fun hc => ?_)
      · replace hf := ifF hc hf
        refine v_aload_n g dk_0_choosing_66 0 rfl rfl (pc' := 67) rfl ?_
        refine v_iload_n g dk_0_choosing_67 1 rfl rfl (pc' := 68) rfl ?_
        refine v_iload g dk_0_choosing_68 7 rfl (pc' := 70) rfl ?_
        obtain ⟨q6, hq, hf⟩ := bnd hf
        refine v_callS_i (As := [.int x1, .int x9]) (rest := [.ref (ad 0)]) (r := q6) (S1 := S) g hK hA (c_CSelects_place hq) (kcC_X_272 g.2.2.2.2 rfl rfl (Nat.le_of_ble_eq_true rfl) (Nat.le_of_ble_eq_true rfl)) rfl rfl (Nat.le_of_ble_eq_true rfl) dk_0_choosing_70 (Nat.zero_le _) (Nat.zero_le _) (pc' := 73) rfl ?_
        refine v_lload_n g dk_0_choosing_73 2 rfl rfl (pc' := 74) rfl ?_
        refine v_iload g dk_0_choosing_74 3 rfl (pc' := 76) rfl ?_
        obtain ⟨q7, hq, hf⟩ := bnd hf
        refine v_callV_l (As := [.int q6, .long x2, .int x4]) (rest := []) (r := q7) (S1 := S) g hK hA (c_CX_givenBy_0 hq) (kcC_X_275 g.2.2.2.2 rfl rfl (Nat.le_of_ble_eq_true rfl) (Nat.le_of_ble_eq_true rfl)) (ci := 0) (q0 := 0) rfl rfl rfl rfl rfl (Nat.le_of_ble_eq_true rfl) dk_0_choosing_76 (Nat.zero_le _) (Nat.zero_le _) (pc' := 79) rfl ?_
        refine v_lstore (lv' := [(10, .long q7), (0, .ref (ad 0)), (1, .int x1), (2, .long x2), (4, .int x4), (5, .int x5), (6, .int x6), (7, .long x7), (9, .int x9)]) g dk_0_choosing_79 (by decide) rfl (pc' := 81) rfl ?_
        refine v_iload g dk_0_choosing_81 6 rfl (pc' := 83) rfl ?_
        refine v_iconst (v := (-1)) g dk_0_choosing_83 (by decide) (pc' := 84) rfl ?_
        refine v_icmp_ne (tgt := 98) (pc' := 87) g dk_0_choosing_84 (by decide) rfl (fun hc => ?_) (fun hc => ?_)
        · replace hf := ifF hc hf
          refine v_lload g dk_0_choosing_98 7 rfl (pc' := 100) rfl ?_
          refine v_lload g dk_0_choosing_100 0 rfl (pc' := 102) rfl ?_
          obtain ⟨q8, hq, hf⟩ := bnd hf
          refine v_callS_i (As := [.long x7, .long q7]) (rest := []) (r := q8) (S1 := S) g hK hA (c_CChoices_areAlike hq) (kcC_X_278 g.2.2.2.2 rfl rfl (Nat.le_of_ble_eq_true rfl) (Nat.le_of_ble_eq_true rfl)) rfl rfl (Nat.le_of_ble_eq_true rfl) dk_0_choosing_102 (Nat.zero_le _) (Nat.zero_le _) (pc' := 105) rfl ?_
          refine v_if_ne (tgt := 116) (pc' := 108) g dk_0_choosing_105 (by decide) rfl (fun hc => ?_) (fun hc => ?_)
          · replace hf := ifF hc hf
            refine v_iinc (j := 8) (v := x9 + 1) (lv' := [(9, .int (x9 + 1)), (10, .long q7), (0, .ref (ad 0)), (1, .int x1), (2, .long x2), (4, .int x4), (5, .int x5), (6, .int x6), (7, .long x7)]) g dk_0_choosing_116 rfl rfl (by decide) rfl (pc' := 119) rfl ?_
            refine v_goto (tgt := 39) g dk_0_choosing_119 (by decide) ?_
            refine v_sub [2, 3, 4, 5, 6, 7, 8, 0] rfl ?_
            exact ih x6 x7 (x9 + 1) o hf hx hret
          · replace hf := ifT hc hf
            refine v_iload g dk_0_choosing_108 6 rfl (pc' := 110) rfl ?_
            refine v_iload g dk_0_choosing_110 8 rfl (pc' := 112) rfl ?_
            obtain ⟨q9, hq, hf⟩ := bnd hf
            refine v_callS_l (As := [.int x6, .int x9]) (rest := []) (r := q9) (S1 := S) g hK hA (c_CChoices_ofClash hq) (kcC_X_282 g.2.2.2.2 rfl rfl (Nat.le_of_ble_eq_true rfl) (Nat.le_of_ble_eq_true rfl)) rfl rfl (Nat.le_of_ble_eq_true rfl) dk_0_choosing_112 (Nat.zero_le _) (Nat.zero_le _) (pc' := 115) rfl ?_
            exact v_lret g hr hlk hK  (hret _ (Option.some.inj hf).symm) dk_0_choosing_115
        · replace hf := ifT hc hf
          refine v_iload g dk_0_choosing_87 8 rfl (pc' := 89) rfl ?_
          refine v_istore (lv' := [(6, .int x9), (10, .long q7), (0, .ref (ad 0)), (1, .int x1), (2, .long x2), (4, .int x4), (5, .int x5), (7, .long x7), (9, .int x9)]) g dk_0_choosing_89 (by decide) rfl (pc' := 91) rfl ?_
          refine v_lload g dk_0_choosing_91 1 rfl (pc' := 93) rfl ?_
          refine v_lstore (lv' := [(7, .long q7), (6, .int x9), (10, .long q7), (0, .ref (ad 0)), (1, .int x1), (2, .long x2), (4, .int x4), (5, .int x5), (9, .int x9)]) g dk_0_choosing_93 (by decide) rfl (pc' := 95) rfl ?_
          refine v_goto (tgt := 116) g dk_0_choosing_95 (by decide) ?_
          refine v_iinc (j := 8) (v := x9 + 1) (lv' := [(9, .int (x9 + 1)), (7, .long q7), (6, .int x9), (10, .long q7), (0, .ref (ad 0)), (1, .int x1), (2, .long x2), (4, .int x4), (5, .int x5)]) g dk_0_choosing_116 rfl rfl (by decide) rfl (pc' := 119) rfl ?_
          refine v_goto (tgt := 39) g dk_0_choosing_119 (by decide) ?_
          refine v_sub [4, 5, 6, 7, 8, 2, 1, 0] rfl ?_
          exact ih x9 q7 (x9 + 1) o hf hx hret
      · replace hf := ifT hc hf
        refine v_goto (tgt := 116) g dk_0_choosing_63 (by decide) ?_
        refine v_iinc (j := 7) (v := x9 + 1) (lv' := [(9, .int (x9 + 1)), (0, .ref (ad 0)), (1, .int x1), (2, .long x2), (4, .int x4), (5, .int x5), (6, .int x6), (7, .long x7)]) g dk_0_choosing_116 rfl rfl (by decide) rfl (pc' := 119) rfl ?_
        refine v_goto (tgt := 39) g dk_0_choosing_119 (by decide) ?_
        refine v_sub [1, 2, 3, 4, 5, 6, 7, 0] rfl ?_
        exact ih x6 x7 (x9 + 1) o hf hx hret
def m_CX_choosing_0 (S : StC) (x1 : Int32) (x2 : Int64) (x4 : Int32) : Option Int64 :=
  (m_CX_holdingBranches S x1 x2).bind fun q1 =>
    (m_CX_mostSpecialBranches S x1 q1).bind fun q2 =>
    if q2 = 0 then if inb x1 24 = true then some (gB S 1 x1.toNatClampNeg) else none
    else (m_CChoices_nothing S).bind fun q3 =>
    (L_CX_choosing_0_39 S x1 x2 x4 q2 100 (-1) q3 0).bind fun o10 => exK o10 fun y11 =>
    some y11
set_option maxHeartbeats 4000000 in
set_option maxRecDepth 100000 in
theorem c_CX_choosing_0 {l : Launch} {D : va_G} {ad : Nat → Nat} {ca : Nat → ClassId} {S : StC} {x1 : Int32} {x2 : Int64} {x4 : Int32} {r : Int64} (hf : m_CX_choosing_0 S x1 x2 x4 = some r) : KLC l D ad ca yk_0_choosing (.code yk_0_choosing bk_0_choosing 12 (some .long) :: tb) rm_CX_choosing_0 [.ref (ad 0), .int x1, .long x2, .int x4] S (r, S) := by
  refine met_l (by decide) (Nat.le_of_ble_eq_true rfl) (fun p e s m below meth c A g hr hlk hK hA => ?_)
  replace g : CallFix p m c bk_0_choosing 12 s _ tb Rk_0 := g
  refine v_lv (lv' := [(0, .ref (ad 0)), (1, .int x1), (2, .long x2), (4, .int x4)]) rfl ?_
  unfold m_CX_choosing_0 at hf
  refine v_aload_n g dk_0_choosing_0 0 rfl rfl (pc' := 1) rfl ?_
  refine v_iload_n g dk_0_choosing_1 1 rfl rfl (pc' := 2) rfl ?_
  refine v_aload_n g dk_0_choosing_2 0 rfl rfl (pc' := 3) rfl ?_
  refine v_iload_n g dk_0_choosing_3 1 rfl rfl (pc' := 4) rfl ?_
  refine v_lload_n g dk_0_choosing_4 2 rfl rfl (pc' := 5) rfl ?_
  obtain ⟨q1, hq, hf⟩ := bnd hf
  refine v_callV_i (As := [.int x1, .long x2]) (rest := [.int x1, .ref (ad 0)]) (r := q1) (S1 := S) g hK hA (c_CX_holdingBranches hq) (kcC_X_259 g.2.2.2.2 rfl rfl (Nat.le_of_ble_eq_true rfl) (Nat.le_of_ble_eq_true rfl)) (ci := 0) (q0 := 0) rfl rfl rfl rfl rfl (Nat.le_of_ble_eq_true rfl) dk_0_choosing_5 (Nat.zero_le _) (Nat.zero_le _) (pc' := 8) rfl ?_
  obtain ⟨q2, hq, hf⟩ := bnd hf
  refine v_callV_i (As := [.int x1, .int q1]) (rest := []) (r := q2) (S1 := S) g hK hA (c_CX_mostSpecialBranches hq) (kcC_X_263 g.2.2.2.2 rfl rfl (Nat.le_of_ble_eq_true rfl) (Nat.le_of_ble_eq_true rfl)) (ci := 0) (q0 := 0) rfl rfl rfl rfl rfl (Nat.le_of_ble_eq_true rfl) dk_0_choosing_8 (Nat.zero_le _) (Nat.zero_le _) (pc' := 11) rfl ?_
  refine v_istore (lv' := [(5, .int q2), (0, .ref (ad 0)), (1, .int x1), (2, .long x2), (4, .int x4)]) g dk_0_choosing_11 (by decide) rfl (pc' := 13) rfl ?_
  refine v_iload g dk_0_choosing_13 0 rfl (pc' := 15) rfl ?_
  refine v_if_ne (tgt := 28) (pc' := 18) g dk_0_choosing_15 (by decide) rfl (fun hc => ?_) (fun hc => ?_)
  · replace hf := ifF hc hf
    refine v_iconst (v := (-1)) g dk_0_choosing_28 (by decide) (pc' := 29) rfl ?_
    refine v_istore (lv' := [(6, .int (-1)), (5, .int q2), (0, .ref (ad 0)), (1, .int x1), (2, .long x2), (4, .int x4)]) g dk_0_choosing_29 (by decide) rfl (pc' := 31) rfl ?_
    obtain ⟨q3, hq, hf⟩ := bnd hf
    refine v_callS_l (As := []) (rest := []) (r := q3) (S1 := S) g hK hA (c_CChoices_nothing hq) (kcC_X_65 g.2.2.2.2 rfl rfl (Nat.le_of_ble_eq_true rfl) (Nat.le_of_ble_eq_true rfl)) rfl rfl (Nat.le_of_ble_eq_true rfl) dk_0_choosing_31 (Nat.zero_le _) (Nat.zero_le _) (pc' := 34) rfl ?_
    refine v_lstore (lv' := [(7, .long q3), (6, .int (-1)), (5, .int q2), (0, .ref (ad 0)), (1, .int x1), (2, .long x2), (4, .int x4)]) g dk_0_choosing_34 (by decide) rfl (pc' := 36) rfl ?_
    refine v_iconst (v := 0) g dk_0_choosing_36 (by decide) (pc' := 37) rfl ?_
    refine v_istore (lv' := [(9, .int 0), (7, .long q3), (6, .int (-1)), (5, .int q2), (0, .ref (ad 0)), (1, .int x1), (2, .long x2), (4, .int x4)]) g dk_0_choosing_37 (by decide) rfl (pc' := 39) rfl ?_
    refine v_sub [4, 5, 6, 7, 3, 2, 1, 0] rfl ?_
    obtain ⟨o10, hL, hf⟩ := bnd hf
    refine w_CX_choosing_0_39 g hr hlk hK hA 100 (-1) q3 0 _ hL (fun y11 hy => ?_) (fun r9 hy => ?_)
    · subst hy
      replace hf := exKl hf
      refine v_lload g dk_0_choosing_122 0 rfl (pc' := 124) rfl ?_
      exact v_lret g hr hlk hK  (pinj hf) dk_0_choosing_124
    · subst hy
      exact pinj hf
  · replace hf := ifT hc hf
    refine v_aload_n g dk_0_choosing_18 1 rfl rfl (pc' := 19) rfl ?_
    refine gfC_X_47 g hK dk_0_choosing_19 (pc' := 22) rfl ?_
    refine gfC_X_140 g hK dk_0_choosing_22 (pc' := 25) rfl ?_
    refine v_iload_n g dk_0_choosing_25 2 rfl rfl (pc' := 26) rfl ?_
    obtain ⟨hb12, hf⟩ := grd hf
    refine alC_18 g hK hb12 dk_0_choosing_26 (pc' := 27) rfl ?_
    exact v_lret g hr hlk hK  (pinj hf) dk_0_choosing_27
abbrev rm_CX_givenBy_1 : Room := { frames := 6, cells := 0, slots := 0, locals := 151 }
def m_CX_givenBy_1 (S : StC) (x1 : Int32) (x2 : Int64) (x4 : Int32) : Option Int64 :=
  if inb x1 192 = true then if (gA S 14 x1.toNatClampNeg) = 0 then (m_CChoices_ofValue S (gA S 15 x1.toNatClampNeg)).bind fun q4 =>
    some q4
    else if x4 < 1 then (m_CX_choosing_0 S (gA S 15 x1.toNatClampNeg) x2 (x4 + (1 : Int32))).bind fun q2 =>
    some q2
    else (m_CChoices_nothing S).bind fun q3 =>
    some q3 else none
set_option maxHeartbeats 4000000 in
set_option maxRecDepth 100000 in
theorem c_CX_givenBy_1 {l : Launch} {D : va_G} {ad : Nat → Nat} {ca : Nat → ClassId} {S : StC} {x1 : Int32} {x2 : Int64} {x4 : Int32} {r : Int64} (hf : m_CX_givenBy_1 S x1 x2 x4 = some r) : KLC l D ad ca yk_0_givenBy (.code yk_0_givenBy bk_0_givenBy 5 (some .long) :: tb) rm_CX_givenBy_1 [.ref (ad 0), .int x1, .long x2, .int x4] S (r, S) := by
  refine met_l (by decide) (Nat.le_of_ble_eq_true rfl) (fun p e s m below meth c A g hr hlk hK hA => ?_)
  replace g : CallFix p m c bk_0_givenBy 5 s _ tb Rk_0 := g
  refine v_lv (lv' := [(0, .ref (ad 0)), (1, .int x1), (2, .long x2), (4, .int x4)]) rfl ?_
  unfold m_CX_givenBy_1 at hf
  refine v_aload_n g dk_0_givenBy_0 0 rfl rfl (pc' := 1) rfl ?_
  refine gfC_X_47 g hK dk_0_givenBy_1 (pc' := 4) rfl ?_
  refine gfC_X_286 g hK dk_0_givenBy_4 (pc' := 7) rfl ?_
  refine v_iload_n g dk_0_givenBy_7 1 rfl rfl (pc' := 8) rfl ?_
  obtain ⟨hb1, hf⟩ := grd hf
  refine alC_23 g hK hb1 dk_0_givenBy_8 (pc' := 9) rfl ?_
  refine v_if_ne (tgt := 25) (pc' := 12) g dk_0_givenBy_9 (by decide) rfl (fun hc => ?_) (fun hc => ?_)
  · replace hf := ifF hc hf
    refine v_iload g dk_0_givenBy_25 3 rfl (pc' := 27) rfl ?_
    refine v_iconst (v := 1) g dk_0_givenBy_27 (by decide) (pc' := 28) rfl ?_
    refine v_icmp_lt (tgt := 35) (pc' := 31) g dk_0_givenBy_28 (by decide) rfl (fun hc => ?_) (fun hc => ?_)
    · replace hf := ifT hc hf
      refine v_aload_n g dk_0_givenBy_35 0 rfl rfl (pc' := 36) rfl ?_
      refine v_aload_n g dk_0_givenBy_36 0 rfl rfl (pc' := 37) rfl ?_
      refine gfC_X_47 g hK dk_0_givenBy_37 (pc' := 40) rfl ?_
      refine gfC_X_289 g hK dk_0_givenBy_40 (pc' := 43) rfl ?_
      refine v_iload_n g dk_0_givenBy_43 1 rfl rfl (pc' := 44) rfl ?_
      refine alC_24 g hK hb1 dk_0_givenBy_44 (pc' := 45) rfl ?_
      refine v_lload_n g dk_0_givenBy_45 2 rfl rfl (pc' := 46) rfl ?_
      refine v_iload g dk_0_givenBy_46 3 rfl (pc' := 48) rfl ?_
      refine v_iconst (v := 1) g dk_0_givenBy_48 (by decide) (pc' := 49) rfl ?_
      refine v_iadd g dk_0_givenBy_49 (pc' := 50) rfl ?_
      obtain ⟨q2, hq, hf⟩ := bnd hf
      refine v_callV_l (As := [.int (gA S 15 x1.toNatClampNeg), .long x2, .int (x4 + (1 : Int32))]) (rest := []) (r := q2) (S1 := S) g hK hA (c_CX_choosing_0 hq) (kcC_X_180 g.2.2.2.2 rfl rfl (Nat.le_of_ble_eq_true rfl) (Nat.le_of_ble_eq_true rfl)) (ci := 0) (q0 := 0) rfl rfl rfl rfl rfl (Nat.le_of_ble_eq_true rfl) dk_0_givenBy_50 (Nat.zero_le _) (Nat.zero_le _) (pc' := 53) rfl ?_
      exact v_lret g hr hlk hK  (pinj hf) dk_0_givenBy_53
    · replace hf := ifF hc hf
      obtain ⟨q3, hq, hf⟩ := bnd hf
      refine v_callS_l (As := []) (rest := []) (r := q3) (S1 := S) g hK hA (c_CChoices_nothing hq) (kcC_X_65 g.2.2.2.2 rfl rfl (Nat.le_of_ble_eq_true rfl) (Nat.le_of_ble_eq_true rfl)) rfl rfl (Nat.le_of_ble_eq_true rfl) dk_0_givenBy_31 (Nat.zero_le _) (Nat.zero_le _) (pc' := 34) rfl ?_
      exact v_lret g hr hlk hK  (pinj hf) dk_0_givenBy_34
  · replace hf := ifT hc hf
    refine v_aload_n g dk_0_givenBy_12 0 rfl rfl (pc' := 13) rfl ?_
    refine gfC_X_47 g hK dk_0_givenBy_13 (pc' := 16) rfl ?_
    refine gfC_X_289 g hK dk_0_givenBy_16 (pc' := 19) rfl ?_
    refine v_iload_n g dk_0_givenBy_19 1 rfl rfl (pc' := 20) rfl ?_
    refine alC_24 g hK hb1 dk_0_givenBy_20 (pc' := 21) rfl ?_
    obtain ⟨q4, hq, hf⟩ := bnd hf
    refine v_callS_l (As := [.int (gA S 15 x1.toNatClampNeg)]) (rest := []) (r := q4) (S1 := S) g hK hA (c_CChoices_ofValue hq) (kcC_X_144 g.2.2.2.2 rfl rfl (Nat.le_of_ble_eq_true rfl) (Nat.le_of_ble_eq_true rfl)) rfl rfl (Nat.le_of_ble_eq_true rfl) dk_0_givenBy_21 (Nat.zero_le _) (Nat.zero_le _) (pc' := 24) rfl ?_
    exact v_lret g hr hlk hK  (pinj hf) dk_0_givenBy_24
abbrev rm_CX_choosing_1 : Room := { frames := 7, cells := 0, slots := 0, locals := 175 }
def L_CX_choosing_1_39 (S : StC) (x1 : Int32) (x2 : Int64) (x4 : Int32) (x5 : Int32) : Nat → Int32 → Int64 → Int32 → Option (Int64 ⊕ Int64)
  | 0, _, _, _ => none
  | n + 1, x6, x7, x9 =>
    if inb x1 24 = true then if (gA S 12 x1.toNatClampNeg) ≤ x9 then some (.inl x7)
    else (m_CX_hasBit S x5 x9).bind fun q5 =>
    if q5 = 0 then L_CX_choosing_1_39 S x1 x2 x4 x5 n x6 x7 (x9 + 1)
    else (m_CSelects_place S x1 x9).bind fun q6 =>
    (m_CX_givenBy_1 S q6 x2 x4).bind fun q7 =>
    if x6 = (-1) then L_CX_choosing_1_39 S x1 x2 x4 x5 n x9 q7 (x9 + 1)
    else (m_CChoices_areAlike S x7 q7).bind fun q8 =>
    if q8 = 0 then (m_CChoices_ofClash S x6 x9).bind fun q9 =>
    some (.inr q9)
    else L_CX_choosing_1_39 S x1 x2 x4 x5 n x6 x7 (x9 + 1) else none
set_option maxHeartbeats 4000000 in
set_option maxRecDepth 100000 in
theorem w_CX_choosing_1_39 {p : Program} {l : Launch} {e : Env} {s : State} {m : MethodId} {args : Array Value} {below : List Frame} {meth : Method} {c : Code} {A : Nat → Prop} {D : va_G} {ad : Nat → Nat} {ca : Nat → ClassId} {Rm : Int64 × StC} {S : StC} {x1 : Int32} {x2 : Int64} {x4 : Int32} {x5 : Int32} (g : CallFix p m c bk_0_choosing 12 s args tb Rk_0) (hr : meth.sig.returnType = some .long) (hlk : meth.locks = false) (hK : va_K D vwCl (tyC ca) s) (hA : ∀ q, s.heap.size ≤ q → A q) : ∀ (n : Nat) (x6 : Int32) (x7 : Int64) (x9 : Int32) (o : Int64 ⊕ Int64), L_CX_choosing_1_39 S x1 x2 x4 x5 n x6 x7 x9 = some o → (∀ y, o = .inl y → Vj p l e rm_CX_choosing_1 s m args below meth c (MQ below (qL D vwCl (tyC ca) (wdC ad ca) A Rm) args s 0 0 A) D vwCl A 12 0 0 (wdC ad ca S) 122 [(7, .long y)] []) → (∀ r, o = .inr r → (r, S) = Rm) → Vj p l e rm_CX_choosing_1 s m args below meth c (MQ below (qL D vwCl (tyC ca) (wdC ad ca) A Rm) args s 0 0 A) D vwCl A 12 0 0 (wdC ad ca S) 39 [(0, .ref (ad 0)), (1, .int x1), (2, .long x2), (4, .int x4), (5, .int x5), (6, .int x6), (7, .long x7), (9, .int x9)] [] := by
  intro n
  induction n with
  | zero => intro x6 x7 x9 o hf; exact nomatch (show none = some o from hf)
  | succ n ih =>
    intro x6 x7 x9 o hf hx hret
    rw [L_CX_choosing_1_39] at hf
    refine v_iload g dk_0_choosing_39 7 rfl (pc' := 41) rfl ?_
    refine v_aload_n g dk_0_choosing_41 0 rfl rfl (pc' := 42) rfl ?_
    refine gfC_X_47 g hK dk_0_choosing_42 (pc' := 45) rfl ?_
    refine gfC_X_266 g hK dk_0_choosing_45 (pc' := 48) rfl ?_
    refine v_iload_n g dk_0_choosing_48 1 rfl rfl (pc' := 49) rfl ?_
    obtain ⟨hb4, hf⟩ := grd hf
    refine alC_21 g hK hb4 dk_0_choosing_49 (pc' := 50) rfl ?_
    refine v_icmp_ge (tgt := 122) (pc' := 53) g dk_0_choosing_50 (by decide) rfl (fun hc => ?_) (fun hc => ?_)
    · replace hf := ifT hc hf
      refine v_sub [6] rfl ?_
      exact hx _ (Option.some.inj hf).symm
    · replace hf := ifF hc hf
      refine v_iload g dk_0_choosing_53 4 rfl (pc' := 55) rfl ?_
      refine v_iload g dk_0_choosing_55 7 rfl (pc' := 57) rfl ?_
      obtain ⟨q5, hq, hf⟩ := bnd hf
      refine v_callS_i (As := [.int x5, .int x9]) (rest := []) (r := q5) (S1 := S) g hK hA (c_CX_hasBit hq) (kcC_X_269 g.2.2.2.2 rfl rfl (Nat.le_of_ble_eq_true rfl) (Nat.le_of_ble_eq_true rfl)) rfl rfl (Nat.le_of_ble_eq_true rfl) dk_0_choosing_57 (Nat.zero_le _) (Nat.zero_le _) (pc' := 60) rfl ?_
      refine v_if_ne (tgt := 66) (pc' := 63) g dk_0_choosing_60 (by decide) rfl (fun hc => ?_) (fun hc => ?_)
      · replace hf := ifF hc hf
        refine v_aload_n g dk_0_choosing_66 0 rfl rfl (pc' := 67) rfl ?_
        refine v_iload_n g dk_0_choosing_67 1 rfl rfl (pc' := 68) rfl ?_
        refine v_iload g dk_0_choosing_68 7 rfl (pc' := 70) rfl ?_
        obtain ⟨q6, hq, hf⟩ := bnd hf
        refine v_callS_i (As := [.int x1, .int x9]) (rest := [.ref (ad 0)]) (r := q6) (S1 := S) g hK hA (c_CSelects_place hq) (kcC_X_272 g.2.2.2.2 rfl rfl (Nat.le_of_ble_eq_true rfl) (Nat.le_of_ble_eq_true rfl)) rfl rfl (Nat.le_of_ble_eq_true rfl) dk_0_choosing_70 (Nat.zero_le _) (Nat.zero_le _) (pc' := 73) rfl ?_
        refine v_lload_n g dk_0_choosing_73 2 rfl rfl (pc' := 74) rfl ?_
        refine v_iload g dk_0_choosing_74 3 rfl (pc' := 76) rfl ?_
        obtain ⟨q7, hq, hf⟩ := bnd hf
        refine v_callV_l (As := [.int q6, .long x2, .int x4]) (rest := []) (r := q7) (S1 := S) g hK hA (c_CX_givenBy_1 hq) (kcC_X_275 g.2.2.2.2 rfl rfl (Nat.le_of_ble_eq_true rfl) (Nat.le_of_ble_eq_true rfl)) (ci := 0) (q0 := 0) rfl rfl rfl rfl rfl (Nat.le_of_ble_eq_true rfl) dk_0_choosing_76 (Nat.zero_le _) (Nat.zero_le _) (pc' := 79) rfl ?_
        refine v_lstore (lv' := [(10, .long q7), (0, .ref (ad 0)), (1, .int x1), (2, .long x2), (4, .int x4), (5, .int x5), (6, .int x6), (7, .long x7), (9, .int x9)]) g dk_0_choosing_79 (by decide) rfl (pc' := 81) rfl ?_
        refine v_iload g dk_0_choosing_81 6 rfl (pc' := 83) rfl ?_
        refine v_iconst (v := (-1)) g dk_0_choosing_83 (by decide) (pc' := 84) rfl ?_
        refine v_icmp_ne (tgt := 98) (pc' := 87) g dk_0_choosing_84 (by decide) rfl (fun hc => ?_) (fun hc => ?_)
        · replace hf := ifF hc hf
          refine v_lload g dk_0_choosing_98 7 rfl (pc' := 100) rfl ?_
          refine v_lload g dk_0_choosing_100 0 rfl (pc' := 102) rfl ?_
          obtain ⟨q8, hq, hf⟩ := bnd hf
          refine v_callS_i (As := [.long x7, .long q7]) (rest := []) (r := q8) (S1 := S) g hK hA (c_CChoices_areAlike hq) (kcC_X_278 g.2.2.2.2 rfl rfl (Nat.le_of_ble_eq_true rfl) (Nat.le_of_ble_eq_true rfl)) rfl rfl (Nat.le_of_ble_eq_true rfl) dk_0_choosing_102 (Nat.zero_le _) (Nat.zero_le _) (pc' := 105) rfl ?_
          refine v_if_ne (tgt := 116) (pc' := 108) g dk_0_choosing_105 (by decide) rfl (fun hc => ?_) (fun hc => ?_)
          · replace hf := ifF hc hf
            refine v_iinc (j := 8) (v := x9 + 1) (lv' := [(9, .int (x9 + 1)), (10, .long q7), (0, .ref (ad 0)), (1, .int x1), (2, .long x2), (4, .int x4), (5, .int x5), (6, .int x6), (7, .long x7)]) g dk_0_choosing_116 rfl rfl (by decide) rfl (pc' := 119) rfl ?_
            refine v_goto (tgt := 39) g dk_0_choosing_119 (by decide) ?_
            refine v_sub [2, 3, 4, 5, 6, 7, 8, 0] rfl ?_
            exact ih x6 x7 (x9 + 1) o hf hx hret
          · replace hf := ifT hc hf
            refine v_iload g dk_0_choosing_108 6 rfl (pc' := 110) rfl ?_
            refine v_iload g dk_0_choosing_110 8 rfl (pc' := 112) rfl ?_
            obtain ⟨q9, hq, hf⟩ := bnd hf
            refine v_callS_l (As := [.int x6, .int x9]) (rest := []) (r := q9) (S1 := S) g hK hA (c_CChoices_ofClash hq) (kcC_X_282 g.2.2.2.2 rfl rfl (Nat.le_of_ble_eq_true rfl) (Nat.le_of_ble_eq_true rfl)) rfl rfl (Nat.le_of_ble_eq_true rfl) dk_0_choosing_112 (Nat.zero_le _) (Nat.zero_le _) (pc' := 115) rfl ?_
            exact v_lret g hr hlk hK  (hret _ (Option.some.inj hf).symm) dk_0_choosing_115
        · replace hf := ifT hc hf
          refine v_iload g dk_0_choosing_87 8 rfl (pc' := 89) rfl ?_
          refine v_istore (lv' := [(6, .int x9), (10, .long q7), (0, .ref (ad 0)), (1, .int x1), (2, .long x2), (4, .int x4), (5, .int x5), (7, .long x7), (9, .int x9)]) g dk_0_choosing_89 (by decide) rfl (pc' := 91) rfl ?_
          refine v_lload g dk_0_choosing_91 1 rfl (pc' := 93) rfl ?_
          refine v_lstore (lv' := [(7, .long q7), (6, .int x9), (10, .long q7), (0, .ref (ad 0)), (1, .int x1), (2, .long x2), (4, .int x4), (5, .int x5), (9, .int x9)]) g dk_0_choosing_93 (by decide) rfl (pc' := 95) rfl ?_
          refine v_goto (tgt := 116) g dk_0_choosing_95 (by decide) ?_
          refine v_iinc (j := 8) (v := x9 + 1) (lv' := [(9, .int (x9 + 1)), (7, .long q7), (6, .int x9), (10, .long q7), (0, .ref (ad 0)), (1, .int x1), (2, .long x2), (4, .int x4), (5, .int x5)]) g dk_0_choosing_116 rfl rfl (by decide) rfl (pc' := 119) rfl ?_
          refine v_goto (tgt := 39) g dk_0_choosing_119 (by decide) ?_
          refine v_sub [4, 5, 6, 7, 8, 2, 1, 0] rfl ?_
          exact ih x9 q7 (x9 + 1) o hf hx hret
      · replace hf := ifT hc hf
        refine v_goto (tgt := 116) g dk_0_choosing_63 (by decide) ?_
        refine v_iinc (j := 7) (v := x9 + 1) (lv' := [(9, .int (x9 + 1)), (0, .ref (ad 0)), (1, .int x1), (2, .long x2), (4, .int x4), (5, .int x5), (6, .int x6), (7, .long x7)]) g dk_0_choosing_116 rfl rfl (by decide) rfl (pc' := 119) rfl ?_
        refine v_goto (tgt := 39) g dk_0_choosing_119 (by decide) ?_
        refine v_sub [1, 2, 3, 4, 5, 6, 7, 0] rfl ?_
        exact ih x6 x7 (x9 + 1) o hf hx hret
def m_CX_choosing_1 (S : StC) (x1 : Int32) (x2 : Int64) (x4 : Int32) : Option Int64 :=
  (m_CX_holdingBranches S x1 x2).bind fun q1 =>
    (m_CX_mostSpecialBranches S x1 q1).bind fun q2 =>
    if q2 = 0 then if inb x1 24 = true then some (gB S 1 x1.toNatClampNeg) else none
    else (m_CChoices_nothing S).bind fun q3 =>
    (L_CX_choosing_1_39 S x1 x2 x4 q2 100 (-1) q3 0).bind fun o10 => exK o10 fun y11 =>
    some y11
set_option maxHeartbeats 4000000 in
set_option maxRecDepth 100000 in
theorem c_CX_choosing_1 {l : Launch} {D : va_G} {ad : Nat → Nat} {ca : Nat → ClassId} {S : StC} {x1 : Int32} {x2 : Int64} {x4 : Int32} {r : Int64} (hf : m_CX_choosing_1 S x1 x2 x4 = some r) : KLC l D ad ca yk_0_choosing (.code yk_0_choosing bk_0_choosing 12 (some .long) :: tb) rm_CX_choosing_1 [.ref (ad 0), .int x1, .long x2, .int x4] S (r, S) := by
  refine met_l (by decide) (Nat.le_of_ble_eq_true rfl) (fun p e s m below meth c A g hr hlk hK hA => ?_)
  replace g : CallFix p m c bk_0_choosing 12 s _ tb Rk_0 := g
  refine v_lv (lv' := [(0, .ref (ad 0)), (1, .int x1), (2, .long x2), (4, .int x4)]) rfl ?_
  unfold m_CX_choosing_1 at hf
  refine v_aload_n g dk_0_choosing_0 0 rfl rfl (pc' := 1) rfl ?_
  refine v_iload_n g dk_0_choosing_1 1 rfl rfl (pc' := 2) rfl ?_
  refine v_aload_n g dk_0_choosing_2 0 rfl rfl (pc' := 3) rfl ?_
  refine v_iload_n g dk_0_choosing_3 1 rfl rfl (pc' := 4) rfl ?_
  refine v_lload_n g dk_0_choosing_4 2 rfl rfl (pc' := 5) rfl ?_
  obtain ⟨q1, hq, hf⟩ := bnd hf
  refine v_callV_i (As := [.int x1, .long x2]) (rest := [.int x1, .ref (ad 0)]) (r := q1) (S1 := S) g hK hA (c_CX_holdingBranches hq) (kcC_X_259 g.2.2.2.2 rfl rfl (Nat.le_of_ble_eq_true rfl) (Nat.le_of_ble_eq_true rfl)) (ci := 0) (q0 := 0) rfl rfl rfl rfl rfl (Nat.le_of_ble_eq_true rfl) dk_0_choosing_5 (Nat.zero_le _) (Nat.zero_le _) (pc' := 8) rfl ?_
  obtain ⟨q2, hq, hf⟩ := bnd hf
  refine v_callV_i (As := [.int x1, .int q1]) (rest := []) (r := q2) (S1 := S) g hK hA (c_CX_mostSpecialBranches hq) (kcC_X_263 g.2.2.2.2 rfl rfl (Nat.le_of_ble_eq_true rfl) (Nat.le_of_ble_eq_true rfl)) (ci := 0) (q0 := 0) rfl rfl rfl rfl rfl (Nat.le_of_ble_eq_true rfl) dk_0_choosing_8 (Nat.zero_le _) (Nat.zero_le _) (pc' := 11) rfl ?_
  refine v_istore (lv' := [(5, .int q2), (0, .ref (ad 0)), (1, .int x1), (2, .long x2), (4, .int x4)]) g dk_0_choosing_11 (by decide) rfl (pc' := 13) rfl ?_
  refine v_iload g dk_0_choosing_13 0 rfl (pc' := 15) rfl ?_
  refine v_if_ne (tgt := 28) (pc' := 18) g dk_0_choosing_15 (by decide) rfl (fun hc => ?_) (fun hc => ?_)
  · replace hf := ifF hc hf
    refine v_iconst (v := (-1)) g dk_0_choosing_28 (by decide) (pc' := 29) rfl ?_
    refine v_istore (lv' := [(6, .int (-1)), (5, .int q2), (0, .ref (ad 0)), (1, .int x1), (2, .long x2), (4, .int x4)]) g dk_0_choosing_29 (by decide) rfl (pc' := 31) rfl ?_
    obtain ⟨q3, hq, hf⟩ := bnd hf
    refine v_callS_l (As := []) (rest := []) (r := q3) (S1 := S) g hK hA (c_CChoices_nothing hq) (kcC_X_65 g.2.2.2.2 rfl rfl (Nat.le_of_ble_eq_true rfl) (Nat.le_of_ble_eq_true rfl)) rfl rfl (Nat.le_of_ble_eq_true rfl) dk_0_choosing_31 (Nat.zero_le _) (Nat.zero_le _) (pc' := 34) rfl ?_
    refine v_lstore (lv' := [(7, .long q3), (6, .int (-1)), (5, .int q2), (0, .ref (ad 0)), (1, .int x1), (2, .long x2), (4, .int x4)]) g dk_0_choosing_34 (by decide) rfl (pc' := 36) rfl ?_
    refine v_iconst (v := 0) g dk_0_choosing_36 (by decide) (pc' := 37) rfl ?_
    refine v_istore (lv' := [(9, .int 0), (7, .long q3), (6, .int (-1)), (5, .int q2), (0, .ref (ad 0)), (1, .int x1), (2, .long x2), (4, .int x4)]) g dk_0_choosing_37 (by decide) rfl (pc' := 39) rfl ?_
    refine v_sub [4, 5, 6, 7, 3, 2, 1, 0] rfl ?_
    obtain ⟨o10, hL, hf⟩ := bnd hf
    refine w_CX_choosing_1_39 g hr hlk hK hA 100 (-1) q3 0 _ hL (fun y11 hy => ?_) (fun r9 hy => ?_)
    · subst hy
      replace hf := exKl hf
      refine v_lload g dk_0_choosing_122 0 rfl (pc' := 124) rfl ?_
      exact v_lret g hr hlk hK  (pinj hf) dk_0_choosing_124
    · subst hy
      exact pinj hf
  · replace hf := ifT hc hf
    refine v_aload_n g dk_0_choosing_18 1 rfl rfl (pc' := 19) rfl ?_
    refine gfC_X_47 g hK dk_0_choosing_19 (pc' := 22) rfl ?_
    refine gfC_X_140 g hK dk_0_choosing_22 (pc' := 25) rfl ?_
    refine v_iload_n g dk_0_choosing_25 2 rfl rfl (pc' := 26) rfl ?_
    obtain ⟨hb12, hf⟩ := grd hf
    refine alC_18 g hK hb12 dk_0_choosing_26 (pc' := 27) rfl ?_
    exact v_lret g hr hlk hK  (pinj hf) dk_0_choosing_27
abbrev rm_CX_choose : Room := { frames := 8, cells := 0, slots := 0, locals := 206 }
def m_CX_choose (S : StC) (x1 : Int32) (x2 : Int32) : Option (Int32 × StC) :=
  (m_CSelects_isThere S x1).bind fun q1 =>
    if q1 = 0 then some ((-1), S)
    else (m_CConfigurations_isThere S x2).bind fun q2 =>
    if q2 = 0 then some ((-1), S)
    else if inb x2 60 = true then (m_CX_choosing_1 S x1 (gB S 0 x2.toNatClampNeg) 0).bind fun q4 =>
    (m_CChoices_kindOf (sL S 0 q4) q4).bind fun q5 =>
    some (q5, sL S 0 q4) else none
set_option maxHeartbeats 4000000 in
set_option maxRecDepth 100000 in
theorem c_CX_choose {l : Launch} {D : va_G} {ad : Nat → Nat} {ca : Nat → ClassId} {S : StC} {x1 : Int32} {x2 : Int32} {r : Int32 × StC} (hf : m_CX_choose S x1 x2 = some r) : KIC l D ad ca yk_0_choose (.code yk_0_choose bk_0_choose 3 (some .int) :: tb) rm_CX_choose [.ref (ad 0), .int x1, .int x2] S r := by
  refine met_i (by decide) (Nat.le_of_ble_eq_true rfl) (fun p e s m below meth c A g hr hlk hK hA => ?_)
  replace g : CallFix p m c bk_0_choose 3 s _ tb Rk_0 := g
  refine v_lv (lv' := [(0, .ref (ad 0)), (1, .int x1), (2, .int x2)]) rfl ?_
  unfold m_CX_choose at hf
  refine v_aload_n g dk_0_choose_0 0 rfl rfl (pc' := 1) rfl ?_
  refine gfC_X_47 g hK dk_0_choose_1 (pc' := 4) rfl ?_
  refine v_iload_n g dk_0_choose_4 1 rfl rfl (pc' := 5) rfl ?_
  obtain ⟨q1, hq, hf⟩ := bnd hf
  refine v_callV_i (As := [.int x1]) (rest := []) (r := q1) (S1 := S) g hK hA (c_CSelects_isThere hq) (kcC_X_132 g.2.2.2.2 rfl rfl (Nat.le_of_ble_eq_true rfl) (Nat.le_of_ble_eq_true rfl)) (ci := 7) (q0 := 16) rfl rfl rfl rfl rfl (Nat.le_of_ble_eq_true rfl) dk_0_choose_5 (Nat.zero_le _) (Nat.zero_le _) (pc' := 8) rfl ?_
  refine v_if_eq (tgt := 22) (pc' := 11) g dk_0_choose_8 (by decide) rfl (fun hc => ?_) (fun hc => ?_)
  · replace hf := ifT hc hf
    refine v_iconst (v := (-1)) g dk_0_choose_22 (by decide) (pc' := 23) rfl ?_
    exact v_iret g hr hlk hK  (Option.some.inj hf) dk_0_choose_23
  · replace hf := ifF hc hf
    refine v_aload_n g dk_0_choose_11 0 rfl rfl (pc' := 12) rfl ?_
    refine gfC_X_26 g hK dk_0_choose_12 (pc' := 15) rfl ?_
    refine v_iload_n g dk_0_choose_15 2 rfl rfl (pc' := 16) rfl ?_
    obtain ⟨q2, hq, hf⟩ := bnd hf
    refine v_callV_i (As := [.int x2]) (rest := []) (r := q2) (S1 := S) g hK hA (c_CConfigurations_isThere hq) (kcC_X_161 g.2.2.2.2 rfl rfl (Nat.le_of_ble_eq_true rfl) (Nat.le_of_ble_eq_true rfl)) (ci := 3) (q0 := 7) rfl rfl rfl rfl rfl (Nat.le_of_ble_eq_true rfl) dk_0_choose_16 (Nat.zero_le _) (Nat.zero_le _) (pc' := 19) rfl ?_
    refine v_if_ne (tgt := 24) (pc' := 22) g dk_0_choose_19 (by decide) rfl (fun hc => ?_) (fun hc => ?_)
    · replace hf := ifF hc hf
      refine v_aload_n g dk_0_choose_24 0 rfl rfl (pc' := 25) rfl ?_
      refine v_aload_n g dk_0_choose_25 0 rfl rfl (pc' := 26) rfl ?_
      refine v_iload_n g dk_0_choose_26 1 rfl rfl (pc' := 27) rfl ?_
      refine v_aload_n g dk_0_choose_27 0 rfl rfl (pc' := 28) rfl ?_
      refine gfC_X_26 g hK dk_0_choose_28 (pc' := 31) rfl ?_
      refine gfC_X_165 g hK dk_0_choose_31 (pc' := 34) rfl ?_
      refine v_iload_n g dk_0_choose_34 2 rfl rfl (pc' := 35) rfl ?_
      obtain ⟨hb3, hf⟩ := grd hf
      refine alC_8 g hK hb3 dk_0_choose_35 (pc' := 36) rfl ?_
      refine v_iconst (v := 0) g dk_0_choose_36 (by decide) (pc' := 37) rfl ?_
      obtain ⟨q4, hq, hf⟩ := bnd hf
      refine v_callV_l (As := [.int x1, .long (gB S 0 x2.toNatClampNeg), .int 0]) (rest := [.ref (ad 0)]) (r := q4) (S1 := S) g hK hA (c_CX_choosing_1 hq) (kcC_X_180 g.2.2.2.2 rfl rfl (Nat.le_of_ble_eq_true rfl) (Nat.le_of_ble_eq_true rfl)) (ci := 0) (q0 := 0) rfl rfl rfl rfl rfl (Nat.le_of_ble_eq_true rfl) dk_0_choose_37 (Nat.zero_le _) (Nat.zero_le _) (pc' := 40) rfl ?_
      refine pfC_X_71 g hK dk_0_choose_40 (pc' := 43) rfl ?_
      refine v_aload_n g dk_0_choose_43 0 rfl rfl (pc' := 44) rfl ?_
      refine gfC_X_71 g hK dk_0_choose_44 (pc' := 47) rfl ?_
      obtain ⟨q5, hq, hf⟩ := bnd hf
      refine v_callS_i (As := [.long q4]) (rest := []) (r := q5) (S1 := sL S 0 q4) g hK hA (c_CChoices_kindOf hq) (kcC_X_184 g.2.2.2.2 rfl rfl (Nat.le_of_ble_eq_true rfl) (Nat.le_of_ble_eq_true rfl)) rfl rfl (Nat.le_of_ble_eq_true rfl) dk_0_choose_47 (Nat.zero_le _) (Nat.zero_le _) (pc' := 50) rfl ?_
      exact v_iret g hr hlk hK  (Option.some.inj hf) dk_0_choose_50
    · replace hf := ifT hc hf
      refine v_iconst (v := (-1)) g dk_0_choose_22 (by decide) (pc' := 23) rfl ?_
      exact v_iret g hr hlk hK  (Option.some.inj hf) dk_0_choose_23
abbrev rm_CChoices_valueOf : Room := { frames := 0, cells := 0, slots := 0, locals := 0 }
def m_CChoices_valueOf (S : StC) (x0 : Int64) : Option Int32 :=
  some x0.toInt32
set_option maxHeartbeats 4000000 in
set_option maxRecDepth 100000 in
theorem c_CChoices_valueOf {l : Launch} {D : va_G} {ad : Nat → Nat} {ca : Nat → ClassId} {S : StC} {x0 : Int64} {r : Int32} (hf : m_CChoices_valueOf S x0 = some r) : KIC l D ad ca yk_3_valueOf (.code yk_3_valueOf bk_3_valueOf 2 (some .int) :: tb) rm_CChoices_valueOf [.long x0] S (r, S) := by
  refine met_i (by decide) (Nat.le_of_ble_eq_true rfl) (fun p e s m below meth c A g hr hlk hK hA => ?_)
  replace g : CallFix p m c bk_3_valueOf 2 s _ tb Rk_3 := g
  refine v_lv (lv' := [(0, .long x0)]) rfl ?_
  unfold m_CChoices_valueOf at hf
  refine v_lload_n g dk_3_valueOf_0 0 rfl rfl (pc' := 1) rfl ?_
  refine v_l2i g dk_3_valueOf_1 (pc' := 2) rfl ?_
  exact v_iret g hr hlk hK  (pinj hf) dk_3_valueOf_2
abbrev rm_CChoices_firstOf : Room := { frames := 0, cells := 0, slots := 0, locals := 0 }
def m_CChoices_firstOf (S : StC) (x0 : Int64) : Option Int32 :=
  some (x0.toInt32 / 8)
set_option maxHeartbeats 4000000 in
set_option maxRecDepth 100000 in
theorem c_CChoices_firstOf {l : Launch} {D : va_G} {ad : Nat → Nat} {ca : Nat → ClassId} {S : StC} {x0 : Int64} {r : Int32} (hf : m_CChoices_firstOf S x0 = some r) : KIC l D ad ca yk_3_firstOf (.code yk_3_firstOf bk_3_firstOf 2 (some .int) :: tb) rm_CChoices_firstOf [.long x0] S (r, S) := by
  refine met_i (by decide) (Nat.le_of_ble_eq_true rfl) (fun p e s m below meth c A g hr hlk hK hA => ?_)
  replace g : CallFix p m c bk_3_firstOf 2 s _ tb Rk_3 := g
  refine v_lv (lv' := [(0, .long x0)]) rfl ?_
  unfold m_CChoices_firstOf at hf
  refine v_lload_n g dk_3_firstOf_0 0 rfl rfl (pc' := 1) rfl ?_
  refine v_l2i g dk_3_firstOf_1 (pc' := 2) rfl ?_
  refine v_bipush (v := 8) g dk_3_firstOf_2 (by decide) (pc' := 4) rfl ?_
  refine v_idiv g dk_3_firstOf_4 (by decide) (pc' := 5) rfl ?_
  exact v_iret g hr hlk hK  (pinj hf) dk_3_firstOf_5
abbrev rm_CChoices_secondOf : Room := { frames := 0, cells := 0, slots := 0, locals := 0 }
def m_CChoices_secondOf (S : StC) (x0 : Int64) : Option Int32 :=
  some (x0.toInt32 - x0.toInt32 / 8 * 8)
set_option maxHeartbeats 4000000 in
set_option maxRecDepth 100000 in
theorem c_CChoices_secondOf {l : Launch} {D : va_G} {ad : Nat → Nat} {ca : Nat → ClassId} {S : StC} {x0 : Int64} {r : Int32} (hf : m_CChoices_secondOf S x0 = some r) : KIC l D ad ca yk_3_secondOf (.code yk_3_secondOf bk_3_secondOf 2 (some .int) :: tb) rm_CChoices_secondOf [.long x0] S (r, S) := by
  refine met_i (by decide) (Nat.le_of_ble_eq_true rfl) (fun p e s m below meth c A g hr hlk hK hA => ?_)
  replace g : CallFix p m c bk_3_secondOf 2 s _ tb Rk_3 := g
  refine v_lv (lv' := [(0, .long x0)]) rfl ?_
  unfold m_CChoices_secondOf at hf
  refine v_lload_n g dk_3_secondOf_0 0 rfl rfl (pc' := 1) rfl ?_
  refine v_l2i g dk_3_secondOf_1 (pc' := 2) rfl ?_
  refine v_bipush (v := 8) g dk_3_secondOf_2 (by decide) (pc' := 4) rfl ?_
  refine v_irem g dk_3_secondOf_4 (by decide) (pc' := 5) rfl ?_
  exact v_iret g hr hlk hK  (pinj hf) dk_3_secondOf_5
