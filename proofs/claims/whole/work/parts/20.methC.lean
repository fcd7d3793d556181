abbrev rm_CConfigurations_numberOf : Room := { frames := 0, cells := 0, slots := 0, locals := 0 }
def L_CConfigurations_numberOf_2 (S : StC) (x1 : Int64) : Nat → Int32 → Option (Unit ⊕ (Int32 × StC))
  | 0, _ => none
  | n + 1, x3 =>
    if (gI S 2) ≤ x3 then some (.inl ())
    else if inb x3 60 = true then if (lg_cmp (gB S 0 x3.toNatClampNeg) x1) = 0 then some (.inr (x3, S))
    else L_CConfigurations_numberOf_2 S x1 n (x3 + 1) else none
set_option maxHeartbeats 4000000 in
set_option maxRecDepth 100000 in
theorem w_CConfigurations_numberOf_2 {p : Program} {l : Launch} {e : Env} {s : State} {m : MethodId} {args : Array Value} {below : List Frame} {meth : Method} {c : Code} {A : Nat → Prop} {D : va_G} {ad : Nat → Nat} {ca : Nat → ClassId} {Rm : Int32 × StC} {S : StC} {x1 : Int64} (g : CallFix p m c bk_6_numberOf 4 s args tb Rk_6) (hr : meth.sig.returnType = some .int) (hlk : meth.locks = false) (hK : va_K D vwCl (tyC ca) s) (hA : ∀ q, s.heap.size ≤ q → A q) : ∀ (n : Nat) (x3 : Int32) (o : Unit ⊕ (Int32 × StC)), L_CConfigurations_numberOf_2 S x1 n x3 = some o → (∀ y, o = .inl y → Vj p l e rm_CConfigurations_numberOf s m args below meth c (MQ below (qI D vwCl (tyC ca) (wdC ad ca) A Rm) args s 0 0 A) D vwCl A 4 0 0 (wdC ad ca S) 29 [(0, .ref (ad 7)), (1, .long x1)] []) → (∀ r, o = .inr r → r = Rm) → Vj p l e rm_CConfigurations_numberOf s m args below meth c (MQ below (qI D vwCl (tyC ca) (wdC ad ca) A Rm) args s 0 0 A) D vwCl A 4 0 0 (wdC ad ca S) 2 [(0, .ref (ad 7)), (1, .long x1), (3, .int x3)] [] := by
  intro n
  induction n with
  | zero => intro x3 o hf; exact nomatch (show none = some o from hf)
  | succ n ih =>
    intro x3 o hf hx hret
    rw [L_CConfigurations_numberOf_2] at hf
    refine v_iload_n g dk_6_numberOf_2 2 rfl rfl (pc' := 3) rfl ?_
    refine v_aload_n g dk_6_numberOf_3 0 rfl rfl (pc' := 4) rfl ?_
    refine gfC_Configurations_15 g hK dk_6_numberOf_4 (pc' := 7) rfl ?_
    refine v_icmp_ge (tgt := 29) (pc' := 10) g dk_6_numberOf_7 (by decide) rfl (fun hc => ?_) (fun hc => ?_)
    · replace hf := ifT hc hf
      refine v_sub [0, 1] rfl ?_
      exact hx _ (Option.some.inj hf).symm
    · replace hf := ifF hc hf
      refine v_aload_n g dk_6_numberOf_10 0 rfl rfl (pc' := 11) rfl ?_
      refine gfC_Configurations_9 g hK dk_6_numberOf_11 (pc' := 14) rfl ?_
      refine v_iload_n g dk_6_numberOf_14 2 rfl rfl (pc' := 15) rfl ?_
      obtain ⟨hb1, hf⟩ := grd hf
      refine alC_8 g hK hb1 dk_6_numberOf_15 (pc' := 16) rfl ?_
      refine v_lload_n g dk_6_numberOf_16 1 rfl rfl (pc' := 17) rfl ?_
      refine v_lcmp g dk_6_numberOf_17 (pc' := 18) rfl ?_
      refine v_if_ne (tgt := 23) (pc' := 21) g dk_6_numberOf_18 (by decide) rfl (fun hc => ?_) (fun hc => ?_)
      · replace hf := ifF hc hf
        refine v_iinc (j := 2) (v := x3 + 1) (lv' := [(3, .int (x3 + 1)), (0, .ref (ad 7)), (1, .long x1)]) g dk_6_numberOf_23 rfl rfl (by decide) rfl (pc' := 26) rfl ?_
        refine v_goto (tgt := 2) g dk_6_numberOf_26 (by decide) ?_
        refine v_sub [1, 2, 0] rfl ?_
        exact ih (x3 + 1) o hf hx hret
      · replace hf := ifT hc hf
        refine v_iload_n g dk_6_numberOf_21 2 rfl rfl (pc' := 22) rfl ?_
        exact v_iret g hr hlk hK  (hret _ (Option.some.inj hf).symm) dk_6_numberOf_22
def m_CConfigurations_numberOf (S : StC) (x1 : Int64) : Option (Int32 × StC) :=
  (L_CConfigurations_numberOf_2 S x1 100 0).bind fun o2 => exK o2 fun y3 =>
    if (gI S 2) < 60 then if inb (gI S 2) 60 = true then some (gI S 2, sI (tB S 0 (gI S 2) x1) 2 ((gI S 2) + (1 : Int32))) else none
    else some ((-1), S)
set_option maxHeartbeats 4000000 in
set_option maxRecDepth 100000 in
theorem c_CConfigurations_numberOf {l : Launch} {D : va_G} {ad : Nat → Nat} {ca : Nat → ClassId} {S : StC} {x1 : Int64} {r : Int32 × StC} (hf : m_CConfigurations_numberOf S x1 = some r) : KIC l D ad ca yk_6_numberOf (.code yk_6_numberOf bk_6_numberOf 4 (some .int) :: tb) rm_CConfigurations_numberOf [.ref (ad 7), .long x1] S r := by
  refine met_i (by decide) (Nat.le_of_ble_eq_true rfl) (fun p e s m below meth c A g hr hlk hK hA => ?_)
  replace g : CallFix p m c bk_6_numberOf 4 s _ tb Rk_6 := g
  refine v_lv (lv' := [(0, .ref (ad 7)), (1, .long x1)]) rfl ?_
  unfold m_CConfigurations_numberOf at hf
  refine v_iconst (v := 0) g dk_6_numberOf_0 (by decide) (pc' := 1) rfl ?_
  refine v_istore_n (lv' := [(3, .int 0), (0, .ref (ad 7)), (1, .long x1)]) g dk_6_numberOf_1 rfl (by decide) rfl (pc' := 2) rfl ?_
  refine v_sub [1, 2, 0] rfl ?_
  obtain ⟨o2, hL, hf⟩ := bnd hf
  refine w_CConfigurations_numberOf_2 g hr hlk hK hA 100 0 _ hL (fun y3 hy => ?_) (fun r9 hy => ?_)
  · subst hy
    replace hf := exKl hf
    refine v_aload_n g dk_6_numberOf_29 0 rfl rfl (pc' := 30) rfl ?_
    refine gfC_Configurations_15 g hK dk_6_numberOf_30 (pc' := 33) rfl ?_
    refine v_bipush (v := 60) g dk_6_numberOf_33 (by decide) (pc' := 35) rfl ?_
    refine v_icmp_lt (tgt := 40) (pc' := 38) g dk_6_numberOf_35 (by decide) rfl (fun hc => ?_) (fun hc => ?_)
    · replace hf := ifT hc hf
      refine v_aload_n g dk_6_numberOf_40 0 rfl rfl (pc' := 41) rfl ?_
      refine gfC_Configurations_9 g hK dk_6_numberOf_41 (pc' := 44) rfl ?_
      refine v_aload_n g dk_6_numberOf_44 0 rfl rfl (pc' := 45) rfl ?_
      refine gfC_Configurations_15 g hK dk_6_numberOf_45 (pc' := 48) rfl ?_
      refine v_lload_n g dk_6_numberOf_48 1 rfl rfl (pc' := 49) rfl ?_
      obtain ⟨hb4, hf⟩ := grd hf
      refine asC_8 g hK hb4 dk_6_numberOf_49 (pc' := 50) rfl ?_
      refine v_aload_n g dk_6_numberOf_50 0 rfl rfl (pc' := 51) rfl ?_
      refine v_dup g dk_6_numberOf_51 rfl (pc' := 52) rfl ?_
      refine gfC_Configurations_15 g hK dk_6_numberOf_52 (pc' := 55) rfl ?_
      refine v_dup_x1 g dk_6_numberOf_55 rfl rfl (pc' := 56) rfl ?_
      refine v_iconst (v := 1) g dk_6_numberOf_56 (by decide) (pc' := 57) rfl ?_
      refine v_iadd g dk_6_numberOf_57 (pc' := 58) rfl ?_
      refine pfC_Configurations_15 g hK dk_6_numberOf_58 (pc' := 61) rfl ?_
      exact v_iret g hr hlk hK  (Option.some.inj hf) dk_6_numberOf_61
    · replace hf := ifF hc hf
      refine v_iconst (v := (-1)) g dk_6_numberOf_38 (by decide) (pc' := 39) rfl ?_
      exact v_iret g hr hlk hK  (Option.some.inj hf) dk_6_numberOf_39
  · subst hy
    exact Option.some.inj hf
abbrev rm_CX_configuration : Room := { frames := 2, cells := 0, slots := 0, locals := 50 }
def m_CX_configuration (S : StC) (x1 : Int32) : Option (Int32 × StC) :=
  (m_CPlatforms_isThere S x1).bind fun q1 =>
    if q1 = 0 then some ((-1), S)
    else (m_CCodes_onPlatform S x1).bind fun q2 =>
    (m_CX_trimmed S q2 0).bind fun q3 =>
    (m_CConfigurations_numberOf S q3).bind fun q4 =>
    some (q4.1, q4.2)
set_option maxHeartbeats 4000000 in
set_option maxRecDepth 100000 in
theorem c_CX_configuration {l : Launch} {D : va_G} {ad : Nat → Nat} {ca : Nat → ClassId} {S : StC} {x1 : Int32} {r : Int32 × StC} (hf : m_CX_configuration S x1 = some r) : KIC l D ad ca yk_0_configuration (.code yk_0_configuration bk_0_configuration 2 (some .int) :: tb) rm_CX_configuration [.ref (ad 0), .int x1] S r := by
  refine met_i (by decide) (Nat.le_of_ble_eq_true rfl) (fun p e s m below meth c A g hr hlk hK hA => ?_)
  replace g : CallFix p m c bk_0_configuration 2 s _ tb Rk_0 := g
  refine v_lv (lv' := [(0, .ref (ad 0)), (1, .int x1)]) rfl ?_
  unfold m_CX_configuration at hf
  refine v_aload_n g dk_0_configuration_0 0 rfl rfl (pc' := 1) rfl ?_
  refine gfC_X_19 g hK dk_0_configuration_1 (pc' := 4) rfl ?_
  refine v_iload_n g dk_0_configuration_4 1 rfl rfl (pc' := 5) rfl ?_
  obtain ⟨q1, hq, hf⟩ := bnd hf
  refine v_callV_i (As := [.int x1]) (rest := []) (r := q1) (S1 := S) g hK hA (c_CPlatforms_isThere hq) (kcC_X_90 g.2.2.2.2 rfl rfl (Nat.le_of_ble_eq_true rfl) (Nat.le_of_ble_eq_true rfl)) (ci := 6) (q0 := 5) rfl rfl rfl rfl rfl (Nat.le_of_ble_eq_true rfl) dk_0_configuration_5 (Nat.zero_le _) (Nat.zero_le _) (pc' := 8) rfl ?_
  refine v_if_ne (tgt := 13) (pc' := 11) g dk_0_configuration_8 (by decide) rfl (fun hc => ?_) (fun hc => ?_)
  · replace hf := ifF hc hf
    refine v_aload_n g dk_0_configuration_13 0 rfl rfl (pc' := 14) rfl ?_
    refine gfC_X_26 g hK dk_0_configuration_14 (pc' := 17) rfl ?_
    refine v_aload_n g dk_0_configuration_17 0 rfl rfl (pc' := 18) rfl ?_
    refine v_iload_n g dk_0_configuration_18 1 rfl rfl (pc' := 19) rfl ?_
    obtain ⟨q2, hq, hf⟩ := bnd hf
    refine v_callS_l (As := [.int x1]) (rest := [.ref (ad 0), .ref (ad 7)]) (r := q2) (S1 := S) g hK hA (c_CCodes_onPlatform hq) (kcC_X_148 g.2.2.2.2 rfl rfl (Nat.le_of_ble_eq_true rfl) (Nat.le_of_ble_eq_true rfl)) rfl rfl (Nat.le_of_ble_eq_true rfl) dk_0_configuration_19 (Nat.zero_le _) (Nat.zero_le _) (pc' := 22) rfl ?_
    refine v_iconst (v := 0) g dk_0_configuration_22 (by decide) (pc' := 23) rfl ?_
    obtain ⟨q3, hq, hf⟩ := bnd hf
    refine v_callV_l (As := [.long q2, .int 0]) (rest := [.ref (ad 7)]) (r := q3) (S1 := S) g hK hA (c_CX_trimmed hq) (kcC_X_153 g.2.2.2.2 rfl rfl (Nat.le_of_ble_eq_true rfl) (Nat.le_of_ble_eq_true rfl)) (ci := 0) (q0 := 0) rfl rfl rfl rfl rfl (Nat.le_of_ble_eq_true rfl) dk_0_configuration_23 (Nat.zero_le _) (Nat.zero_le _) (pc' := 26) rfl ?_
    obtain ⟨q4, hq, hf⟩ := bnd hf
    refine v_callV_i (As := [.long q3]) (rest := []) (r := q4.1) (S1 := q4.2) g hK hA (c_CConfigurations_numberOf hq) (kcC_X_157 g.2.2.2.2 rfl rfl (Nat.le_of_ble_eq_true rfl) (Nat.le_of_ble_eq_true rfl)) (ci := 3) (q0 := 7) rfl rfl rfl rfl rfl (Nat.le_of_ble_eq_true rfl) dk_0_configuration_26 (Nat.zero_le _) (Nat.zero_le _) (pc' := 29) rfl ?_
    exact v_iret g hr hlk hK  (Option.some.inj hf) dk_0_configuration_29
  · replace hf := ifT hc hf
    refine v_iconst (v := (-1)) g dk_0_configuration_11 (by decide) (pc' := 12) rfl ?_
    exact v_iret g hr hlk hK  (Option.some.inj hf) dk_0_configuration_12
abbrev rm_CConfigurations_isThere : Room := { frames := 0, cells := 0, slots := 0, locals := 0 }
def m_CConfigurations_isThere (S : StC) (x1 : Int32) : Option Int32 :=
  if x1 < 0 then some 0
    else if (gI S 2) ≤ x1 then some 0
    else some 1
set_option maxHeartbeats 4000000 in
set_option maxRecDepth 100000 in
theorem c_CConfigurations_isThere {l : Launch} {D : va_G} {ad : Nat → Nat} {ca : Nat → ClassId} {S : StC} {x1 : Int32} {r : Int32} (hf : m_CConfigurations_isThere S x1 = some r) : KIC l D ad ca yk_6_isThere (.code yk_6_isThere bk_6_isThere 2 (some .boolean) :: tb) rm_CConfigurations_isThere [.ref (ad 7), .int x1] S (r, S) := by
  refine met_z (by decide) (Nat.le_of_ble_eq_true rfl) (fun p e s m below meth c A g hr hlk hK hA => ?_)
  replace g : CallFix p m c bk_6_isThere 2 s _ tb Rk_6 := g
  refine v_lv (lv' := [(0, .ref (ad 7)), (1, .int x1)]) rfl ?_
  unfold m_CConfigurations_isThere at hf
  refine v_iload_n g dk_6_isThere_0 1 rfl rfl (pc' := 1) rfl ?_
  refine v_if_lt (tgt := 16) (pc' := 4) g dk_6_isThere_1 (by decide) rfl (fun hc => ?_) (fun hc => ?_)
  · replace hf := ifT hc hf
    refine v_iconst (v := 0) g dk_6_isThere_16 (by decide) (pc' := 17) rfl ?_
    exact v_zret g hr hlk hK rfl (pinj hf) dk_6_isThere_17
  · replace hf := ifF hc hf
    refine v_iload_n g dk_6_isThere_4 1 rfl rfl (pc' := 5) rfl ?_
    refine v_aload_n g dk_6_isThere_5 0 rfl rfl (pc' := 6) rfl ?_
    refine gfC_Configurations_15 g hK dk_6_isThere_6 (pc' := 9) rfl ?_
    refine v_icmp_ge (tgt := 16) (pc' := 12) g dk_6_isThere_9 (by decide) rfl (fun hc => ?_) (fun hc => ?_)
    · replace hf := ifT hc hf
      refine v_iconst (v := 0) g dk_6_isThere_16 (by decide) (pc' := 17) rfl ?_
      exact v_zret g hr hlk hK rfl (pinj hf) dk_6_isThere_17
    · replace hf := ifF hc hf
      refine v_iconst (v := 1) g dk_6_isThere_12 (by decide) (pc' := 13) rfl ?_
      refine v_goto (tgt := 17) g dk_6_isThere_13 (by decide) ?_
      exact v_zret g hr hlk hK rfl (pinj hf) dk_6_isThere_17
abbrev rm_CX_set : Room := { frames := 2, cells := 0, slots := 0, locals := 44 }
def m_CX_set (S : StC) (x1 : Int32) (x2 : Int32) (x3 : Int32) : Option (Int32 × StC) :=
  (m_CSettings_baseOf S x2).bind fun q1 =>
    (m_CConfigurations_isThere S x1).bind fun q2 =>
    if q2 = 0 then some ((-1), S)
    else if q1 = (-1) then some ((-1), S)
    else if x3 < 0 then some ((-1), S)
    else if inb q1 16 = true then if x3 < (gA S 0 q1.toNatClampNeg) then if inb x1 60 = true then (m_CCodes_withValue S (gB S 0 x1.toNatClampNeg) q1 x3).bind fun q5 =>
    (m_CConfigurations_numberOf S q5).bind fun q6 =>
    some (q6.1, q6.2) else none
    else some ((-1), S) else none
set_option maxHeartbeats 4000000 in
set_option maxRecDepth 100000 in
theorem c_CX_set {l : Launch} {D : va_G} {ad : Nat → Nat} {ca : Nat → ClassId} {S : StC} {x1 : Int32} {x2 : Int32} {x3 : Int32} {r : Int32 × StC} (hf : m_CX_set S x1 x2 x3 = some r) : KIC l D ad ca yk_0_set (.code yk_0_set bk_0_set 7 (some .int) :: tb) rm_CX_set [.ref (ad 0), .int x1, .int x2, .int x3] S r := by
  refine met_i (by decide) (Nat.le_of_ble_eq_true rfl) (fun p e s m below meth c A g hr hlk hK hA => ?_)
  replace g : CallFix p m c bk_0_set 7 s _ tb Rk_0 := g
  refine v_lv (lv' := [(0, .ref (ad 0)), (1, .int x1), (2, .int x2), (3, .int x3)]) rfl ?_
  unfold m_CX_set at hf
  refine v_aload_n g dk_0_set_0 0 rfl rfl (pc' := 1) rfl ?_
  refine gfC_X_12 g hK dk_0_set_1 (pc' := 4) rfl ?_
  refine v_iload_n g dk_0_set_4 2 rfl rfl (pc' := 5) rfl ?_
  obtain ⟨q1, hq, hf⟩ := bnd hf
  refine v_callV_i (As := [.int x2]) (rest := []) (r := q1) (S1 := S) g hK hA (c_CSettings_baseOf hq) (kcC_X_83 g.2.2.2.2 rfl rfl (Nat.le_of_ble_eq_true rfl) (Nat.le_of_ble_eq_true rfl)) (ci := 8) (q0 := 1) rfl rfl rfl rfl rfl (Nat.le_of_ble_eq_true rfl) dk_0_set_5 (Nat.zero_le _) (Nat.zero_le _) (pc' := 8) rfl ?_
  refine v_istore (lv' := [(4, .int q1), (0, .ref (ad 0)), (1, .int x1), (2, .int x2), (3, .int x3)]) g dk_0_set_8 (by decide) rfl (pc' := 10) rfl ?_
  refine v_aload_n g dk_0_set_10 1 rfl rfl (pc' := 11) rfl ?_
  refine gfC_X_26 g hK dk_0_set_11 (pc' := 14) rfl ?_
  refine v_iload_n g dk_0_set_14 2 rfl rfl (pc' := 15) rfl ?_
  obtain ⟨q2, hq, hf⟩ := bnd hf
  refine v_callV_i (As := [.int x1]) (rest := []) (r := q2) (S1 := S) g hK hA (c_CConfigurations_isThere hq) (kcC_X_161 g.2.2.2.2 rfl rfl (Nat.le_of_ble_eq_true rfl) (Nat.le_of_ble_eq_true rfl)) (ci := 3) (q0 := 7) rfl rfl rfl rfl rfl (Nat.le_of_ble_eq_true rfl) dk_0_set_15 (Nat.zero_le _) (Nat.zero_le _) (pc' := 18) rfl ?_
  refine v_if_eq (tgt := 27) (pc' := 21) g dk_0_set_18 (by decide) rfl (fun hc => ?_) (fun hc => ?_)
  · replace hf := ifT hc hf
    refine v_iconst (v := (-1)) g dk_0_set_27 (by decide) (pc' := 28) rfl ?_
    exact v_iret g hr hlk hK  (Option.some.inj hf) dk_0_set_28
  · replace hf := ifF hc hf
    refine v_iload g dk_0_set_21 0 rfl (pc' := 23) rfl ?_
    refine v_iconst (v := (-1)) g dk_0_set_23 (by decide) (pc' := 24) rfl ?_
    refine v_icmp_ne (tgt := 29) (pc' := 27) g dk_0_set_24 (by decide) rfl (fun hc => ?_) (fun hc => ?_)
    · replace hf := ifF hc hf
      refine v_iload_n g dk_0_set_29 4 rfl rfl (pc' := 30) rfl ?_
      refine v_if_lt (tgt := 47) (pc' := 33) g dk_0_set_30 (by decide) rfl (fun hc => ?_) (fun hc => ?_)
      · replace hf := ifT hc hf
        refine v_iconst (v := (-1)) g dk_0_set_47 (by decide) (pc' := 48) rfl ?_
        exact v_iret g hr hlk hK  (Option.some.inj hf) dk_0_set_48
      · replace hf := ifF hc hf
        refine v_iload_n g dk_0_set_33 4 rfl rfl (pc' := 34) rfl ?_
        refine v_aload_n g dk_0_set_34 1 rfl rfl (pc' := 35) rfl ?_
        refine gfC_X_12 g hK dk_0_set_35 (pc' := 38) rfl ?_
        refine gfC_X_162 g hK dk_0_set_38 (pc' := 41) rfl ?_
        refine v_iload g dk_0_set_41 0 rfl (pc' := 43) rfl ?_
        obtain ⟨hb3, hf⟩ := grd hf
        refine alC_2 g hK hb3 dk_0_set_43 (pc' := 44) rfl ?_
        refine v_icmp_lt (tgt := 49) (pc' := 47) g dk_0_set_44 (by decide) rfl (fun hc => ?_) (fun hc => ?_)
        · replace hf := ifT hc hf
          refine v_aload_n g dk_0_set_49 1 rfl rfl (pc' := 50) rfl ?_
          refine gfC_X_26 g hK dk_0_set_50 (pc' := 53) rfl ?_
          refine gfC_X_165 g hK dk_0_set_53 (pc' := 56) rfl ?_
          refine v_iload_n g dk_0_set_56 2 rfl rfl (pc' := 57) rfl ?_
          obtain ⟨hb4, hf⟩ := grd hf
          refine alC_8 g hK hb4 dk_0_set_57 (pc' := 58) rfl ?_
          refine v_lstore (lv' := [(5, .long (gB S 0 x1.toNatClampNeg)), (4, .int q1), (0, .ref (ad 0)), (1, .int x1), (2, .int x2), (3, .int x3)]) g dk_0_set_58 (by decide) rfl (pc' := 60) rfl ?_
          refine v_aload_n g dk_0_set_60 2 rfl rfl (pc' := 61) rfl ?_
          refine gfC_X_26 g hK dk_0_set_61 (pc' := 64) rfl ?_
          refine v_lload g dk_0_set_64 0 rfl (pc' := 66) rfl ?_
          refine v_iload g dk_0_set_66 1 rfl (pc' := 68) rfl ?_
          refine v_iload_n g dk_0_set_68 5 rfl rfl (pc' := 69) rfl ?_
          obtain ⟨q5, hq, hf⟩ := bnd hf
          refine v_callS_l (As := [.long (gB S 0 x1.toNatClampNeg), .int q1, .int x3]) (rest := [.ref (ad 7)]) (r := q5) (S1 := S) g hK hA (c_CCodes_withValue hq) (kcC_X_168 g.2.2.2.2 rfl rfl (Nat.le_of_ble_eq_true rfl) (Nat.le_of_ble_eq_true rfl)) rfl rfl (Nat.le_of_ble_eq_true rfl) dk_0_set_69 (Nat.zero_le _) (Nat.zero_le _) (pc' := 72) rfl ?_
          obtain ⟨q6, hq, hf⟩ := bnd hf
          refine v_callV_i (As := [.long q5]) (rest := []) (r := q6.1) (S1 := q6.2) g hK hA (c_CConfigurations_numberOf hq) (kcC_X_157 g.2.2.2.2 rfl rfl (Nat.le_of_ble_eq_true rfl) (Nat.le_of_ble_eq_true rfl)) (ci := 3) (q0 := 7) rfl rfl rfl rfl rfl (Nat.le_of_ble_eq_true rfl) dk_0_set_72 (Nat.zero_le _) (Nat.zero_le _) (pc' := 75) rfl ?_
          exact v_iret g hr hlk hK  (Option.some.inj hf) dk_0_set_75
        · replace hf := ifF hc hf
          refine v_iconst (v := (-1)) g dk_0_set_47 (by decide) (pc' := 48) rfl ?_
          exact v_iret g hr hlk hK  (Option.some.inj hf) dk_0_set_48
    · replace hf := ifT hc hf
      refine v_iconst (v := (-1)) g dk_0_set_27 (by decide) (pc' := 28) rfl ?_
      exact v_iret g hr hlk hK  (Option.some.inj hf) dk_0_set_28
abbrev rm_CCodes_valueIn : Room := { frames := 0, cells := 0, slots := 0, locals := 0 }
def m_CCodes_valueIn (S : StC) (x0 : Int64) (x2 : Int32) : Option Int32 :=
  some ((((x0.toUInt64 >>> ((x2 * (3 : Int32)).toInt64.toUInt64 &&& Int64.toUInt64 63)).toInt64) &&& (7 : Int64)).toInt32)
set_option maxHeartbeats 4000000 in
set_option maxRecDepth 100000 in
theorem c_CCodes_valueIn {l : Launch} {D : va_G} {ad : Nat → Nat} {ca : Nat → ClassId} {S : StC} {x0 : Int64} {x2 : Int32} {r : Int32} (hf : m_CCodes_valueIn S x0 x2 = some r) : KIC l D ad ca yk_4_valueIn (.code yk_4_valueIn bk_4_valueIn 3 (some .int) :: tb) rm_CCodes_valueIn [.long x0, .int x2] S (r, S) := by
  refine met_i (by decide) (Nat.le_of_ble_eq_true rfl) (fun p e s m below meth c A g hr hlk hK hA => ?_)
  replace g : CallFix p m c bk_4_valueIn 3 s _ tb Rk_4 := g
  refine v_lv (lv' := [(0, .long x0), (2, .int x2)]) rfl ?_
  unfold m_CCodes_valueIn at hf
  refine v_lload_n g dk_4_valueIn_0 0 rfl rfl (pc' := 1) rfl ?_
  refine v_iload_n g dk_4_valueIn_1 1 rfl rfl (pc' := 2) rfl ?_
  refine v_iconst (v := 3) g dk_4_valueIn_2 (by decide) (pc' := 3) rfl ?_
  refine v_imul g dk_4_valueIn_3 (pc' := 4) rfl ?_
  refine v_lushr g dk_4_valueIn_4 (pc' := 5) rfl ?_
  refine v_ldc2 g dk_4_valueIn_5 lcC_Codes_11 (pc' := 8) rfl ?_
  refine v_land g dk_4_valueIn_8 (pc' := 9) rfl ?_
  refine v_l2i g dk_4_valueIn_9 (pc' := 10) rfl ?_
  exact v_iret g hr hlk hK  (pinj hf) dk_4_valueIn_10
abbrev rm_CX_value : Room := { frames := 2, cells := 0, slots := 0, locals := 44 }
def m_CX_value (S : StC) (x1 : Int32) (x2 : Int32) : Option Int32 :=
  (m_CSettings_baseOf S x2).bind fun q1 =>
    (m_CConfigurations_isThere S x1).bind fun q2 =>
    if q2 = 0 then some (-1)
    else if q1 = (-1) then some (-1)
    else if inb x1 60 = true then (m_CCodes_valueIn S (gB S 0 x1.toNatClampNeg) q1).bind fun q4 =>
    some q4 else none
set_option maxHeartbeats 4000000 in
set_option maxRecDepth 100000 in
theorem c_CX_value {l : Launch} {D : va_G} {ad : Nat → Nat} {ca : Nat → ClassId} {S : StC} {x1 : Int32} {x2 : Int32} {r : Int32} (hf : m_CX_value S x1 x2 = some r) : KIC l D ad ca yk_0_value (.code yk_0_value bk_0_value 4 (some .int) :: tb) rm_CX_value [.ref (ad 0), .int x1, .int x2] S (r, S) := by
  refine met_i (by decide) (Nat.le_of_ble_eq_true rfl) (fun p e s m below meth c A g hr hlk hK hA => ?_)
  replace g : CallFix p m c bk_0_value 4 s _ tb Rk_0 := g
  refine v_lv (lv' := [(0, .ref (ad 0)), (1, .int x1), (2, .int x2)]) rfl ?_
  unfold m_CX_value at hf
  refine v_aload_n g dk_0_value_0 0 rfl rfl (pc' := 1) rfl ?_
  refine gfC_X_12 g hK dk_0_value_1 (pc' := 4) rfl ?_
  refine v_iload_n g dk_0_value_4 2 rfl rfl (pc' := 5) rfl ?_
  obtain ⟨q1, hq, hf⟩ := bnd hf
  refine v_callV_i (As := [.int x2]) (rest := []) (r := q1) (S1 := S) g hK hA (c_CSettings_baseOf hq) (kcC_X_83 g.2.2.2.2 rfl rfl (Nat.le_of_ble_eq_true rfl) (Nat.le_of_ble_eq_true rfl)) (ci := 8) (q0 := 1) rfl rfl rfl rfl rfl (Nat.le_of_ble_eq_true rfl) dk_0_value_5 (Nat.zero_le _) (Nat.zero_le _) (pc' := 8) rfl ?_
  refine v_istore_n (lv' := [(3, .int q1), (0, .ref (ad 0)), (1, .int x1), (2, .int x2)]) g dk_0_value_8 rfl (by decide) rfl (pc' := 9) rfl ?_
  refine v_aload_n g dk_0_value_9 1 rfl rfl (pc' := 10) rfl ?_
  refine gfC_X_26 g hK dk_0_value_10 (pc' := 13) rfl ?_
  refine v_iload_n g dk_0_value_13 2 rfl rfl (pc' := 14) rfl ?_
  obtain ⟨q2, hq, hf⟩ := bnd hf
  refine v_callV_i (As := [.int x1]) (rest := []) (r := q2) (S1 := S) g hK hA (c_CConfigurations_isThere hq) (kcC_X_161 g.2.2.2.2 rfl rfl (Nat.le_of_ble_eq_true rfl) (Nat.le_of_ble_eq_true rfl)) (ci := 3) (q0 := 7) rfl rfl rfl rfl rfl (Nat.le_of_ble_eq_true rfl) dk_0_value_14 (Nat.zero_le _) (Nat.zero_le _) (pc' := 17) rfl ?_
  refine v_if_eq (tgt := 25) (pc' := 20) g dk_0_value_17 (by decide) rfl (fun hc => ?_) (fun hc => ?_)
  · replace hf := ifT hc hf
    refine v_iconst (v := (-1)) g dk_0_value_25 (by decide) (pc' := 26) rfl ?_
    exact v_iret g hr hlk hK  (pinj hf) dk_0_value_26
  · replace hf := ifF hc hf
    refine v_iload_n g dk_0_value_20 0 rfl rfl (pc' := 21) rfl ?_
    refine v_iconst (v := (-1)) g dk_0_value_21 (by decide) (pc' := 22) rfl ?_
    refine v_icmp_ne (tgt := 27) (pc' := 25) g dk_0_value_22 (by decide) rfl (fun hc => ?_) (fun hc => ?_)
    · replace hf := ifF hc hf
      refine v_aload_n g dk_0_value_27 1 rfl rfl (pc' := 28) rfl ?_
      refine gfC_X_26 g hK dk_0_value_28 (pc' := 31) rfl ?_
      refine gfC_X_165 g hK dk_0_value_31 (pc' := 34) rfl ?_
      refine v_iload_n g dk_0_value_34 2 rfl rfl (pc' := 35) rfl ?_
      obtain ⟨hb3, hf⟩ := grd hf
      refine alC_8 g hK hb3 dk_0_value_35 (pc' := 36) rfl ?_
      refine v_iload_n g dk_0_value_36 0 rfl rfl (pc' := 37) rfl ?_
      obtain ⟨q4, hq, hf⟩ := bnd hf
      refine v_callS_i (As := [.long (gB S 0 x1.toNatClampNeg), .int q1]) (rest := []) (r := q4) (S1 := S) g hK hA (c_CCodes_valueIn hq) (kcC_X_172 g.2.2.2.2 rfl rfl (Nat.le_of_ble_eq_true rfl) (Nat.le_of_ble_eq_true rfl)) rfl rfl (Nat.le_of_ble_eq_true rfl) dk_0_value_37 (Nat.zero_le _) (Nat.zero_le _) (pc' := 40) rfl ?_
      exact v_iret g hr hlk hK  (pinj hf) dk_0_value_40
    · replace hf := ifT hc hf
      refine v_iconst (v := (-1)) g dk_0_value_25 (by decide) (pc' := 26) rfl ?_
      exact v_iret g hr hlk hK  (pinj hf) dk_0_value_26
abbrev rm_CAskings_isAboutAxis : Room := { frames := 0, cells := 0, slots := 0, locals := 0 }
def m_CAskings_isAboutAxis (S : StC) (x0 : Int32) : Option Int32 :=
  if x0 < 128 then some 0
    else some 1
set_option maxHeartbeats 4000000 in
set_option maxRecDepth 100000 in
theorem c_CAskings_isAboutAxis {l : Launch} {D : va_G} {ad : Nat → Nat} {ca : Nat → ClassId} {S : StC} {x0 : Int32} {r : Int32} (hf : m_CAskings_isAboutAxis S x0 = some r) : KIC l D ad ca yk_2_isAboutAxis (.code yk_2_isAboutAxis bk_2_isAboutAxis 1 (some .boolean) :: tb) rm_CAskings_isAboutAxis [.int x0] S (r, S) := by
  refine met_z (by decide) (Nat.le_of_ble_eq_true rfl) (fun p e s m below meth c A g hr hlk hK hA => ?_)
  replace g : CallFix p m c bk_2_isAboutAxis 1 s _ tb Rk_2 := g
  refine v_lv (lv' := [(0, .int x0)]) rfl ?_
  unfold m_CAskings_isAboutAxis at hf
  refine v_iload_n g dk_2_isAboutAxis_0 0 rfl rfl (pc' := 1) rfl ?_
  refine v_sipush (v := 128) g dk_2_isAboutAxis_1 (by decide) (pc' := 4) rfl ?_
  refine v_icmp_lt (tgt := 11) (pc' := 7) g dk_2_isAboutAxis_4 (by decide) rfl (fun hc => ?_) (fun hc => ?_)
  · replace hf := ifT hc hf
    refine v_iconst (v := 0) g dk_2_isAboutAxis_11 (by decide) (pc' := 12) rfl ?_
    exact v_zret g hr hlk hK rfl (pinj hf) dk_2_isAboutAxis_12
  · replace hf := ifF hc hf
    refine v_iconst (v := 1) g dk_2_isAboutAxis_7 (by decide) (pc' := 8) rfl ?_
    refine v_goto (tgt := 12) g dk_2_isAboutAxis_8 (by decide) ?_
    exact v_zret g hr hlk hK rfl (pinj hf) dk_2_isAboutAxis_12
abbrev rm_CAskings_whichOf : Room := { frames := 1, cells := 0, slots := 0, locals := 20 }
def m_CAskings_whichOf (S : StC) (x0 : Int32) : Option Int32 :=
  (m_CAskings_isAboutAxis S x0).bind fun q1 =>
    if q1 = 0 then some (x0 / 8)
    else some ((x0 - (128 : Int32)) / 8)
set_option maxHeartbeats 4000000 in
set_option maxRecDepth 100000 in
theorem c_CAskings_whichOf {l : Launch} {D : va_G} {ad : Nat → Nat} {ca : Nat → ClassId} {S : StC} {x0 : Int32} {r : Int32} (hf : m_CAskings_whichOf S x0 = some r) : KIC l D ad ca yk_2_whichOf (.code yk_2_whichOf bk_2_whichOf 1 (some .int) :: tb) rm_CAskings_whichOf [.int x0] S (r, S) := by
  refine met_i (by decide) (Nat.le_of_ble_eq_true rfl) (fun p e s m below meth c A g hr hlk hK hA => ?_)
  replace g : CallFix p m c bk_2_whichOf 1 s _ tb Rk_2 := g
  refine v_lv (lv' := [(0, .int x0)]) rfl ?_
  unfold m_CAskings_whichOf at hf
  refine v_iload_n g dk_2_whichOf_0 0 rfl rfl (pc' := 1) rfl ?_
  obtain ⟨q1, hq, hf⟩ := bnd hf
  refine v_callS_i (As := [.int x0]) (rest := []) (r := q1) (S1 := S) g hK hA (c_CAskings_isAboutAxis hq) (kcC_Askings_11 g.2.2.2.2 rfl rfl (Nat.le_of_ble_eq_true rfl) (Nat.le_of_ble_eq_true rfl)) rfl rfl (Nat.le_of_ble_eq_true rfl) dk_2_whichOf_1 (Nat.zero_le _) (Nat.zero_le _) (pc' := 4) rfl ?_
  refine v_if_eq (tgt := 15) (pc' := 7) g dk_2_whichOf_4 (by decide) rfl (fun hc => ?_) (fun hc => ?_)
  · replace hf := ifT hc hf
    refine v_iload_n g dk_2_whichOf_15 0 rfl rfl (pc' := 16) rfl ?_
    refine v_bipush (v := 8) g dk_2_whichOf_16 (by decide) (pc' := 18) rfl ?_
    refine v_idiv g dk_2_whichOf_18 (by decide) (pc' := 19) rfl ?_
    exact v_iret g hr hlk hK  (pinj hf) dk_2_whichOf_19
  · replace hf := ifF hc hf
    refine v_iload_n g dk_2_whichOf_7 0 rfl rfl (pc' := 8) rfl ?_
    refine v_sipush (v := 128) g dk_2_whichOf_8 (by decide) (pc' := 11) rfl ?_
    refine v_isub g dk_2_whichOf_11 (pc' := 12) rfl ?_
    refine v_goto (tgt := 16) g dk_2_whichOf_12 (by decide) ?_
    refine v_bipush (v := 8) g dk_2_whichOf_16 (by decide) (pc' := 18) rfl ?_
    refine v_idiv g dk_2_whichOf_18 (by decide) (pc' := 19) rfl ?_
    exact v_iret g hr hlk hK  (pinj hf) dk_2_whichOf_19
abbrev rm_CAskings_valueOf : Room := { frames := 0, cells := 0, slots := 0, locals := 0 }
def m_CAskings_valueOf (S : StC) (x0 : Int32) : Option Int32 :=
  some (x0 - x0 / 8 * 8)
set_option maxHeartbeats 4000000 in
set_option maxRecDepth 100000 in
theorem c_CAskings_valueOf {l : Launch} {D : va_G} {ad : Nat → Nat} {ca : Nat → ClassId} {S : StC} {x0 : Int32} {r : Int32} (hf : m_CAskings_valueOf S x0 = some r) : KIC l D ad ca yk_2_valueOf (.code yk_2_valueOf bk_2_valueOf 1 (some .int) :: tb) rm_CAskings_valueOf [.int x0] S (r, S) := by
  refine met_i (by decide) (Nat.le_of_ble_eq_true rfl) (fun p e s m below meth c A g hr hlk hK hA => ?_)
  replace g : CallFix p m c bk_2_valueOf 1 s _ tb Rk_2 := g
  refine v_lv (lv' := [(0, .int x0)]) rfl ?_
  unfold m_CAskings_valueOf at hf
  refine v_iload_n g dk_2_valueOf_0 0 rfl rfl (pc' := 1) rfl ?_
  refine v_bipush (v := 8) g dk_2_valueOf_1 (by decide) (pc' := 3) rfl ?_
  refine v_irem g dk_2_valueOf_3 (by decide) (pc' := 4) rfl ?_
  exact v_iret g hr hlk hK  (pinj hf) dk_2_valueOf_4
abbrev rm_CPlatforms_valueAt : Room := { frames := 0, cells := 0, slots := 0, locals := 0 }
def m_CPlatforms_valueAt (S : StC) (x1 : Int32) (x2 : Int32) : Option Int32 :=
  if inb ((x1 * (8 : Int32)) + x2) 64 = true then some (gA S 3 ((x1 * (8 : Int32)) + x2).toNatClampNeg) else none
set_option maxHeartbeats 4000000 in
set_option maxRecDepth 100000 in
theorem c_CPlatforms_valueAt {l : Launch} {D : va_G} {ad : Nat → Nat} {ca : Nat → ClassId} {S : StC} {x1 : Int32} {x2 : Int32} {r : Int32} (hf : m_CPlatforms_valueAt S x1 x2 = some r) : KIC l D ad ca yk_9_valueAt (.code yk_9_valueAt bk_9_valueAt 3 (some .int) :: tb) rm_CPlatforms_valueAt [.ref (ad 5), .int x1, .int x2] S (r, S) := by
  refine met_i (by decide) (Nat.le_of_ble_eq_true rfl) (fun p e s m below meth c A g hr hlk hK hA => ?_)
  replace g : CallFix p m c bk_9_valueAt 3 s _ tb Rk_9 := g
  refine v_lv (lv' := [(0, .ref (ad 5)), (1, .int x1), (2, .int x2)]) rfl ?_
  unfold m_CPlatforms_valueAt at hf
  refine v_aload_n g dk_9_valueAt_0 0 rfl rfl (pc' := 1) rfl ?_
  refine gfC_Platforms_9 g hK dk_9_valueAt_1 (pc' := 4) rfl ?_
  refine v_iload_n g dk_9_valueAt_4 1 rfl rfl (pc' := 5) rfl ?_
  refine v_bipush (v := 8) g dk_9_valueAt_5 (by decide) (pc' := 7) rfl ?_
  refine v_imul g dk_9_valueAt_7 (pc' := 8) rfl ?_
  refine v_iload_n g dk_9_valueAt_8 2 rfl rfl (pc' := 9) rfl ?_
  refine v_iadd g dk_9_valueAt_9 (pc' := 10) rfl ?_
  obtain ⟨hb1, hf⟩ := grd hf
  refine alC_6 g hK hb1 dk_9_valueAt_10 (pc' := 11) rfl ?_
  exact v_iret g hr hlk hK  (pinj hf) dk_9_valueAt_11
abbrev rm_CX_isAskingMet : Room := { frames := 2, cells := 0, slots := 0, locals := 44 }
def m_CX_isAskingMet (S : StC) (x1 : Int32) (x2 : Int64) : Option Int32 :=
  (m_CAskings_whichOf S x1).bind fun q1 =>
    (m_CAskings_valueOf S x1).bind fun q2 =>
    (m_CAskings_isAboutAxis S x1).bind fun q3 =>
    if q3 = 0 then (m_CSettings_baseOf S q1).bind fun q4 =>
    if q4 = (-1) then some 0
    else (m_CCodes_valueIn S x2 q4).bind fun q5 =>
    if q5 = q2 then some 1
    else some 0
    else (m_CCodes_platformIn S x2).bind fun q6 =>
    (m_CPlatforms_valueAt S q6 q1).bind fun q7 =>
    if q7 = q2 then some 1
    else some 0
set_option maxHeartbeats 4000000 in
set_option maxRecDepth 100000 in
theorem c_CX_isAskingMet {l : Launch} {D : va_G} {ad : Nat → Nat} {ca : Nat → ClassId} {S : StC} {x1 : Int32} {x2 : Int64} {r : Int32} (hf : m_CX_isAskingMet S x1 x2 = some r) : KIC l D ad ca yk_0_isAskingMet (.code yk_0_isAskingMet bk_0_isAskingMet 7 (some .boolean) :: tb) rm_CX_isAskingMet [.ref (ad 0), .int x1, .long x2] S (r, S) := by
  refine met_z (by decide) (Nat.le_of_ble_eq_true rfl) (fun p e s m below meth c A g hr hlk hK hA => ?_)
  replace g : CallFix p m c bk_0_isAskingMet 7 s _ tb Rk_0 := g
  refine v_lv (lv' := [(0, .ref (ad 0)), (1, .int x1), (2, .long x2)]) rfl ?_
  unfold m_CX_isAskingMet at hf
  refine v_iload_n g dk_0_isAskingMet_0 1 rfl rfl (pc' := 1) rfl ?_
  obtain ⟨q1, hq, hf⟩ := bnd hf
  refine v_callS_i (As := [.int x1]) (rest := []) (r := q1) (S1 := S) g hK hA (c_CAskings_whichOf hq) (kcC_X_245 g.2.2.2.2 rfl rfl (Nat.le_of_ble_eq_true rfl) (Nat.le_of_ble_eq_true rfl)) rfl rfl (Nat.le_of_ble_eq_true rfl) dk_0_isAskingMet_1 (Nat.zero_le _) (Nat.zero_le _) (pc' := 4) rfl ?_
  refine v_istore (lv' := [(4, .int q1), (0, .ref (ad 0)), (1, .int x1), (2, .long x2)]) g dk_0_isAskingMet_4 (by decide) rfl (pc' := 6) rfl ?_
  refine v_iload_n g dk_0_isAskingMet_6 2 rfl rfl (pc' := 7) rfl ?_
  obtain ⟨q2, hq, hf⟩ := bnd hf
  refine v_callS_i (As := [.int x1]) (rest := []) (r := q2) (S1 := S) g hK hA (c_CAskings_valueOf hq) (kcC_X_248 g.2.2.2.2 rfl rfl (Nat.le_of_ble_eq_true rfl) (Nat.le_of_ble_eq_true rfl)) rfl rfl (Nat.le_of_ble_eq_true rfl) dk_0_isAskingMet_7 (Nat.zero_le _) (Nat.zero_le _) (pc' := 10) rfl ?_
  refine v_istore (lv' := [(5, .int q2), (4, .int q1), (0, .ref (ad 0)), (1, .int x1), (2, .long x2)]) g dk_0_isAskingMet_10 (by decide) rfl (pc' := 12) rfl ?_
  refine v_iload_n g dk_0_isAskingMet_12 3 rfl rfl (pc' := 13) rfl ?_
  obtain ⟨q3, hq, hf⟩ := bnd hf
  refine v_callS_i (As := [.int x1]) (rest := []) (r := q3) (S1 := S) g hK hA (c_CAskings_isAboutAxis hq) (kcC_X_250 g.2.2.2.2 rfl rfl (Nat.le_of_ble_eq_true rfl) (Nat.le_of_ble_eq_true rfl)) rfl rfl (Nat.le_of_ble_eq_true rfl) dk_0_isAskingMet_13 (Nat.zero_le _) (Nat.zero_le _) (pc' := 16) rfl ?_
  refine v_if_eq (tgt := 43) (pc' := 19) g dk_0_isAskingMet_16 (by decide) rfl (fun hc => ?_) (fun hc => ?_)
  · replace hf := ifT hc hf
    refine v_aload_n g dk_0_isAskingMet_43 2 rfl rfl (pc' := 44) rfl ?_
    refine gfC_X_12 g hK dk_0_isAskingMet_44 (pc' := 47) rfl ?_
    refine v_iload g dk_0_isAskingMet_47 1 rfl (pc' := 49) rfl ?_
    obtain ⟨q4, hq, hf⟩ := bnd hf
    refine v_callV_i (As := [.int q1]) (rest := []) (r := q4) (S1 := S) g hK hA (c_CSettings_baseOf hq) (kcC_X_83 g.2.2.2.2 rfl rfl (Nat.le_of_ble_eq_true rfl) (Nat.le_of_ble_eq_true rfl)) (ci := 8) (q0 := 1) rfl rfl rfl rfl rfl (Nat.le_of_ble_eq_true rfl) dk_0_isAskingMet_49 (Nat.zero_le _) (Nat.zero_le _) (pc' := 52) rfl ?_
    refine v_istore (lv' := [(6, .int q4), (5, .int q2), (4, .int q1), (0, .ref (ad 0)), (1, .int x1), (2, .long x2)]) g dk_0_isAskingMet_52 (by decide) rfl (pc' := 54) rfl ?_
    refine v_iload g dk_0_isAskingMet_54 0 rfl (pc' := 56) rfl ?_
    refine v_iconst (v := (-1)) g dk_0_isAskingMet_56 (by decide) (pc' := 57) rfl ?_
    refine v_icmp_eq (tgt := 75) (pc' := 60) g dk_0_isAskingMet_57 (by decide) rfl (fun hc => ?_) (fun hc => ?_)
    · replace hf := ifT hc hf
      refine v_iconst (v := 0) g dk_0_isAskingMet_75 (by decide) (pc' := 76) rfl ?_
      exact v_zret g hr hlk hK rfl (pinj hf) dk_0_isAskingMet_76
    · replace hf := ifF hc hf
      refine v_lload_n g dk_0_isAskingMet_60 5 rfl rfl (pc' := 61) rfl ?_
      refine v_iload g dk_0_isAskingMet_61 0 rfl (pc' := 63) rfl ?_
      obtain ⟨q5, hq, hf⟩ := bnd hf
      refine v_callS_i (As := [.long x2, .int q4]) (rest := []) (r := q5) (S1 := S) g hK hA (c_CCodes_valueIn hq) (kcC_X_172 g.2.2.2.2 rfl rfl (Nat.le_of_ble_eq_true rfl) (Nat.le_of_ble_eq_true rfl)) rfl rfl (Nat.le_of_ble_eq_true rfl) dk_0_isAskingMet_63 (Nat.zero_le _) (Nat.zero_le _) (pc' := 66) rfl ?_
      refine v_iload g dk_0_isAskingMet_66 1 rfl (pc' := 68) rfl ?_
      refine v_icmp_ne (tgt := 75) (pc' := 71) g dk_0_isAskingMet_68 (by decide) rfl (fun hc => ?_) (fun hc => ?_)
      · replace hf := ifF hc hf
        refine v_iconst (v := 0) g dk_0_isAskingMet_75 (by decide) (pc' := 76) rfl ?_
        exact v_zret g hr hlk hK rfl (pinj hf) dk_0_isAskingMet_76
      · replace hf := ifT hc hf
        refine v_iconst (v := 1) g dk_0_isAskingMet_71 (by decide) (pc' := 72) rfl ?_
        refine v_goto (tgt := 76) g dk_0_isAskingMet_72 (by decide) ?_
        exact v_zret g hr hlk hK rfl (pinj hf) dk_0_isAskingMet_76
  · replace hf := ifF hc hf
    refine v_aload_n g dk_0_isAskingMet_19 2 rfl rfl (pc' := 20) rfl ?_
    refine gfC_X_19 g hK dk_0_isAskingMet_20 (pc' := 23) rfl ?_
    refine v_lload_n g dk_0_isAskingMet_23 4 rfl rfl (pc' := 24) rfl ?_
    obtain ⟨q6, hq, hf⟩ := bnd hf
    refine v_callS_i (As := [.long x2]) (rest := [.ref (ad 5)]) (r := q6) (S1 := S) g hK hA (c_CCodes_platformIn hq) (kcC_X_253 g.2.2.2.2 rfl rfl (Nat.le_of_ble_eq_true rfl) (Nat.le_of_ble_eq_true rfl)) rfl rfl (Nat.le_of_ble_eq_true rfl) dk_0_isAskingMet_24 (Nat.zero_le _) (Nat.zero_le _) (pc' := 27) rfl ?_
    refine v_iload g dk_0_isAskingMet_27 1 rfl (pc' := 29) rfl ?_
    obtain ⟨q7, hq, hf⟩ := bnd hf
    refine v_callV_i (As := [.int q6, .int q1]) (rest := []) (r := q7) (S1 := S) g hK hA (c_CPlatforms_valueAt hq) (kcC_X_256 g.2.2.2.2 rfl rfl (Nat.le_of_ble_eq_true rfl) (Nat.le_of_ble_eq_true rfl)) (ci := 6) (q0 := 5) rfl rfl rfl rfl rfl (Nat.le_of_ble_eq_true rfl) dk_0_isAskingMet_29 (Nat.zero_le _) (Nat.zero_le _) (pc' := 32) rfl ?_
    refine v_iload g dk_0_isAskingMet_32 0 rfl (pc' := 34) rfl ?_
    refine v_icmp_ne (tgt := 41) (pc' := 37) g dk_0_isAskingMet_34 (by decide) rfl (fun hc => ?_) (fun hc => ?_)
    · replace hf := ifF hc hf
      refine v_iconst (v := 0) g dk_0_isAskingMet_41 (by decide) (pc' := 42) rfl ?_
      exact v_zret g hr hlk hK rfl (pinj hf) dk_0_isAskingMet_42
    · replace hf := ifT hc hf
      refine v_iconst (v := 1) g dk_0_isAskingMet_37 (by decide) (pc' := 38) rfl ?_
      refine v_goto (tgt := 42) g dk_0_isAskingMet_38 (by decide) ?_
      exact v_zret g hr hlk hK rfl (pinj hf) dk_0_isAskingMet_42
abbrev rm_CX_isMet : Room := { frames := 3, cells := 0, slots := 0, locals := 70 }
def L_CX_isMet_3 (S : StC) (x1 : Int32) (x2 : Int64) : Nat → Int32 → Option (Unit ⊕ Int32)
  | 0, _ => none
  | n + 1, x4 =>
    if inb x1 40 = true then if (gA S 4 x1.toNatClampNeg) ≤ x4 then some (.inl ())
    else (m_CConditions_askingAt S x1 x4).bind fun q2 =>
    (m_CX_isAskingMet S q2 x2).bind fun q3 =>
    if q3 = 0 then some (.inr 0)
    else L_CX_isMet_3 S x1 x2 n (x4 + 1) else none
set_option maxHeartbeats 4000000 in
set_option maxRecDepth 100000 in
theorem w_CX_isMet_3 {p : Program} {l : Launch} {e : Env} {s : State} {m : MethodId} {args : Array Value} {below : List Frame} {meth : Method} {c : Code} {A : Nat → Prop} {D : va_G} {ad : Nat → Nat} {ca : Nat → ClassId} {Rm : Int32 × StC} {S : StC} {x1 : Int32} {x2 : Int64} (g : CallFix p m c bk_0_isMet 5 s args tb Rk_0) (hr : meth.sig.returnType = some .boolean) (hlk : meth.locks = false) (hK : va_K D vwCl (tyC ca) s) (hA : ∀ q, s.heap.size ≤ q → A q) : ∀ (n : Nat) (x4 : Int32) (o : Unit ⊕ Int32), L_CX_isMet_3 S x1 x2 n x4 = some o → (∀ y, o = .inl y → Vj p l e rm_CX_isMet s m args below meth c (MQ below (qI D vwCl (tyC ca) (wdC ad ca) A Rm) args s 0 0 A) D vwCl A 5 0 0 (wdC ad ca S) 43 [] []) → (∀ r, o = .inr r → (r, S) = Rm) → Vj p l e rm_CX_isMet s m args below meth c (MQ below (qI D vwCl (tyC ca) (wdC ad ca) A Rm) args s 0 0 A) D vwCl A 5 0 0 (wdC ad ca S) 3 [(0, .ref (ad 0)), (1, .int x1), (2, .long x2), (4, .int x4)] [] := by
  intro n
  induction n with
  | zero => intro x4 o hf; exact nomatch (show none = some o from hf)
  | succ n ih =>
    intro x4 o hf hx hret
    rw [L_CX_isMet_3] at hf
    refine v_iload g dk_0_isMet_3 3 rfl (pc' := 5) rfl ?_
    refine v_aload_n g dk_0_isMet_5 0 rfl rfl (pc' := 6) rfl ?_
    refine gfC_X_33 g hK dk_0_isMet_6 (pc' := 9) rfl ?_
    refine gfC_X_236 g hK dk_0_isMet_9 (pc' := 12) rfl ?_
    refine v_iload_n g dk_0_isMet_12 1 rfl rfl (pc' := 13) rfl ?_
    obtain ⟨hb1, hf⟩ := grd hf
    refine alC_10 g hK hb1 dk_0_isMet_13 (pc' := 14) rfl ?_
    refine v_icmp_ge (tgt := 43) (pc' := 17) g dk_0_isMet_14 (by decide) rfl (fun hc => ?_) (fun hc => ?_)
    · replace hf := ifT hc hf
      refine v_sub [] rfl ?_
      exact hx _ (Option.some.inj hf).symm
    · replace hf := ifF hc hf
      refine v_aload_n g dk_0_isMet_17 0 rfl rfl (pc' := 18) rfl ?_
      refine v_aload_n g dk_0_isMet_18 0 rfl rfl (pc' := 19) rfl ?_
      refine gfC_X_33 g hK dk_0_isMet_19 (pc' := 22) rfl ?_
      refine v_iload_n g dk_0_isMet_22 1 rfl rfl (pc' := 23) rfl ?_
      refine v_iload g dk_0_isMet_23 3 rfl (pc' := 25) rfl ?_
      obtain ⟨q2, hq, hf⟩ := bnd hf
      refine v_callV_i (As := [.int x1, .int x4]) (rest := [.ref (ad 0)]) (r := q2) (S1 := S) g hK hA (c_CConditions_askingAt hq) (kcC_X_239 g.2.2.2.2 rfl rfl (Nat.le_of_ble_eq_true rfl) (Nat.le_of_ble_eq_true rfl)) (ci := 2) (q0 := 9) rfl rfl rfl rfl rfl (Nat.le_of_ble_eq_true rfl) dk_0_isMet_25 (Nat.zero_le _) (Nat.zero_le _) (pc' := 28) rfl ?_
      refine v_lload_n g dk_0_isMet_28 2 rfl rfl (pc' := 29) rfl ?_
      obtain ⟨q3, hq, hf⟩ := bnd hf
      refine v_callV_i (As := [.int q2, .long x2]) (rest := []) (r := q3) (S1 := S) g hK hA (c_CX_isAskingMet hq) (kcC_X_242 g.2.2.2.2 rfl rfl (Nat.le_of_ble_eq_true rfl) (Nat.le_of_ble_eq_true rfl)) (ci := 0) (q0 := 0) rfl rfl rfl rfl rfl (Nat.le_of_ble_eq_true rfl) dk_0_isMet_29 (Nat.zero_le _) (Nat.zero_le _) (pc' := 32) rfl ?_
      refine v_if_ne (tgt := 37) (pc' := 35) g dk_0_isMet_32 (by decide) rfl (fun hc => ?_) (fun hc => ?_)
      · replace hf := ifF hc hf
        refine v_iinc (j := 3) (v := x4 + 1) (lv' := [(4, .int (x4 + 1)), (0, .ref (ad 0)), (1, .int x1), (2, .long x2)]) g dk_0_isMet_37 rfl rfl (by decide) rfl (pc' := 40) rfl ?_
        refine v_goto (tgt := 3) g dk_0_isMet_40 (by decide) ?_
        refine v_sub [1, 2, 3, 0] rfl ?_
        exact ih (x4 + 1) o hf hx hret
      · replace hf := ifT hc hf
        refine v_iconst (v := 0) g dk_0_isMet_35 (by decide) (pc' := 36) rfl ?_
        exact v_zret g hr hlk hK rfl (hret _ (Option.some.inj hf).symm) dk_0_isMet_36
def m_CX_isMet (S : StC) (x1 : Int32) (x2 : Int64) : Option Int32 :=
  (L_CX_isMet_3 S x1 x2 100 0).bind fun o4 => exK o4 fun y5 =>
    some 1
set_option maxHeartbeats 4000000 in
set_option maxRecDepth 100000 in
theorem c_CX_isMet {l : Launch} {D : va_G} {ad : Nat → Nat} {ca : Nat → ClassId} {S : StC} {x1 : Int32} {x2 : Int64} {r : Int32} (hf : m_CX_isMet S x1 x2 = some r) : KIC l D ad ca yk_0_isMet (.code yk_0_isMet bk_0_isMet 5 (some .boolean) :: tb) rm_CX_isMet [.ref (ad 0), .int x1, .long x2] S (r, S) := by
  refine met_z (by decide) (Nat.le_of_ble_eq_true rfl) (fun p e s m below meth c A g hr hlk hK hA => ?_)
  replace g : CallFix p m c bk_0_isMet 5 s _ tb Rk_0 := g
  refine v_lv (lv' := [(0, .ref (ad 0)), (1, .int x1), (2, .long x2)]) rfl ?_
  unfold m_CX_isMet at hf
  refine v_iconst (v := 0) g dk_0_isMet_0 (by decide) (pc' := 1) rfl ?_
  refine v_istore (lv' := [(4, .int 0), (0, .ref (ad 0)), (1, .int x1), (2, .long x2)]) g dk_0_isMet_1 (by decide) rfl (pc' := 3) rfl ?_
  refine v_sub [1, 2, 3, 0] rfl ?_
  obtain ⟨o4, hL, hf⟩ := bnd hf
  refine w_CX_isMet_3 g hr hlk hK hA 100 0 _ hL (fun y5 hy => ?_) (fun r9 hy => ?_)
  · subst hy
    replace hf := exKl hf
    refine v_iconst (v := 1) g dk_0_isMet_43 (by decide) (pc' := 44) rfl ?_
    exact v_zret g hr hlk hK rfl (pinj hf) dk_0_isMet_44
  · subst hy
    exact pinj hf
