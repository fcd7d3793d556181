abbrev rm_CConfigurations_anyOn : Room := { frames := 1, cells := 0, slots := 0, locals := 21 }
def L_CConfigurations_anyOn_2 (S : StC) (x1 : Int32) : Nat → Int32 → Option (Unit ⊕ Int32)
  | 0, _ => none
  | n + 1, x2 =>
    if (gI S 2) ≤ x2 then some (.inl ())
    else if inb x2 60 = true then (m_CCodes_platformIn S (gB S 0 x2.toNatClampNeg)).bind fun q2 =>
    if q2 = x1 then some (.inr 1)
    else L_CConfigurations_anyOn_2 S x1 n (x2 + 1) else none
set_option maxHeartbeats 4000000 in
set_option maxRecDepth 100000 in
theorem w_CConfigurations_anyOn_2 {p : Program} {l : Launch} {e : Env} {s : State} {m : MethodId} {args : Array Value} {below : List Frame} {meth : Method} {c : Code} {A : Nat → Prop} {D : va_G} {ad : Nat → Nat} {ca : Nat → ClassId} {Rm : Int32 × StC} {S : StC} {x1 : Int32} (g : CallFix p m c bk_6_anyOn 3 s args tb Rk_6) (hr : meth.sig.returnType = some .boolean) (hlk : meth.locks = false) (hK : va_K D vwCl (tyC ca) s) (hA : ∀ q, s.heap.size ≤ q → A q) : ∀ (n : Nat) (x2 : Int32) (o : Unit ⊕ Int32), L_CConfigurations_anyOn_2 S x1 n x2 = some o → (∀ y, o = .inl y → Vj p l e rm_CConfigurations_anyOn s m args below meth c (MQ below (qI D vwCl (tyC ca) (wdC ad ca) A Rm) args s 0 0 A) D vwCl A 3 0 0 (wdC ad ca S) 31 [] []) → (∀ r, o = .inr r → (r, S) = Rm) → Vj p l e rm_CConfigurations_anyOn s m args below meth c (MQ below (qI D vwCl (tyC ca) (wdC ad ca) A Rm) args s 0 0 A) D vwCl A 3 0 0 (wdC ad ca S) 2 [(0, .ref (ad 7)), (1, .int x1), (2, .int x2)] [] := by
  intro n
  induction n with
  | zero => intro x2 o hf; exact nomatch (show none = some o from hf)
  | succ n ih =>
    intro x2 o hf hx hret
    rw [L_CConfigurations_anyOn_2] at hf
    refine v_iload_n g dk_6_anyOn_2 2 rfl rfl (pc' := 3) rfl ?_
    refine v_aload_n g dk_6_anyOn_3 0 rfl rfl (pc' := 4) rfl ?_
    refine gfC_Configurations_15 g hK dk_6_anyOn_4 (pc' := 7) rfl ?_
    refine v_icmp_ge (tgt := 31) (pc' := 10) g dk_6_anyOn_7 (by decide) rfl (fun hc => ?_) (fun hc => ?_)
    · replace hf := ifT hc hf
      refine v_sub [] rfl ?_
      exact hx _ (Option.some.inj hf).symm
    · replace hf := ifF hc hf
      refine v_aload_n g dk_6_anyOn_10 0 rfl rfl (pc' := 11) rfl ?_
      refine gfC_Configurations_9 g hK dk_6_anyOn_11 (pc' := 14) rfl ?_
      refine v_iload_n g dk_6_anyOn_14 2 rfl rfl (pc' := 15) rfl ?_
      obtain ⟨hb1, hf⟩ := grd hf
      refine alC_8 g hK hb1 dk_6_anyOn_15 (pc' := 16) rfl ?_
      obtain ⟨q2, hq, hf⟩ := bnd hf
      refine v_callS_i (As := [.long (gB S 0 x2.toNatClampNeg)]) (rest := []) (r := q2) (S1 := S) g hK hA (c_CCodes_platformIn hq) (kcC_Configurations_19 g.2.2.2.2 rfl rfl (Nat.le_of_ble_eq_true rfl) (Nat.le_of_ble_eq_true rfl)) rfl rfl (Nat.le_of_ble_eq_true rfl) dk_6_anyOn_16 (Nat.zero_le _) (Nat.zero_le _) (pc' := 19) rfl ?_
      refine v_iload_n g dk_6_anyOn_19 1 rfl rfl (pc' := 20) rfl ?_
      refine v_icmp_ne (tgt := 25) (pc' := 23) g dk_6_anyOn_20 (by decide) rfl (fun hc => ?_) (fun hc => ?_)
      · replace hf := ifF hc hf
        refine v_iinc (j := 2) (v := x2 + 1) (lv' := [(2, .int (x2 + 1)), (0, .ref (ad 7)), (1, .int x1)]) g dk_6_anyOn_25 rfl rfl (by decide) rfl (pc' := 28) rfl ?_
        refine v_goto (tgt := 2) g dk_6_anyOn_28 (by decide) ?_
        refine v_sub [1, 2, 0] rfl ?_
        exact ih (x2 + 1) o hf hx hret
      · replace hf := ifT hc hf
        refine v_iconst (v := 1) g dk_6_anyOn_23 (by decide) (pc' := 24) rfl ?_
        exact v_zret g hr hlk hK rfl (hret _ (Option.some.inj hf).symm) dk_6_anyOn_24
def m_CConfigurations_anyOn (S : StC) (x1 : Int32) : Option Int32 :=
  (L_CConfigurations_anyOn_2 S x1 100 0).bind fun o3 => exK o3 fun y4 =>
    some 0
set_option maxHeartbeats 4000000 in
set_option maxRecDepth 100000 in
theorem c_CConfigurations_anyOn {l : Launch} {D : va_G} {ad : Nat → Nat} {ca : Nat → ClassId} {S : StC} {x1 : Int32} {r : Int32} (hf : m_CConfigurations_anyOn S x1 = some r) : KIC l D ad ca yk_6_anyOn (.code yk_6_anyOn bk_6_anyOn 3 (some .boolean) :: tb) rm_CConfigurations_anyOn [.ref (ad 7), .int x1] S (r, S) := by
  refine met_z (by decide) (Nat.le_of_ble_eq_true rfl) (fun p e s m below meth c A g hr hlk hK hA => ?_)
  replace g : CallFix p m c bk_6_anyOn 3 s _ tb Rk_6 := g
  refine v_lv (lv' := [(0, .ref (ad 7)), (1, .int x1)]) rfl ?_
  unfold m_CConfigurations_anyOn at hf
  refine v_iconst (v := 0) g dk_6_anyOn_0 (by decide) (pc' := 1) rfl ?_
  refine v_istore_n (lv' := [(2, .int 0), (0, .ref (ad 7)), (1, .int x1)]) g dk_6_anyOn_1 rfl (by decide) rfl (pc' := 2) rfl ?_
  refine v_sub [1, 2, 0] rfl ?_
  obtain ⟨o3, hL, hf⟩ := bnd hf
  refine w_CConfigurations_anyOn_2 g hr hlk hK hA 100 0 _ hL (fun y4 hy => ?_) (fun r9 hy => ?_)
  · subst hy
    replace hf := exKl hf
    refine v_iconst (v := 0) g dk_6_anyOn_31 (by decide) (pc' := 32) rfl ?_
    exact v_zret g hr hlk hK rfl (pinj hf) dk_6_anyOn_32
  · subst hy
    exact pinj hf
abbrev rm_CX_has : Room := { frames := 2, cells := 0, slots := 0, locals := 43 }
def m_CX_has (S : StC) (x1 : Int32) (x2 : Int32) (x3 : Int32) : Option (Int32 × StC) :=
  (m_CPlatforms_isThere S x1).bind fun q1 =>
    if q1 = 0 then some (0, S)
    else (m_CX_isAxis S x2).bind fun q2 =>
    if q2 = 0 then some (0, S)
    else if x3 = (-1) then (m_CConfigurations_anyOn S x1).bind fun q3 =>
    if q3 = 0 then (m_CPlatforms_put S x1 x2 x3).bind fun q4 =>
    some (1, q4)
    else some (0, S)
    else (m_CX_isValue S x3).bind fun q5 =>
    if q5 = 0 then some (0, S)
    else (m_CConfigurations_anyOn S x1).bind fun q6 =>
    if q6 = 0 then (m_CPlatforms_put S x1 x2 x3).bind fun q7 =>
    some (1, q7)
    else some (0, S)
set_option maxHeartbeats 4000000 in
set_option maxRecDepth 100000 in
theorem c_CX_has {l : Launch} {D : va_G} {ad : Nat → Nat} {ca : Nat → ClassId} {S : StC} {x1 : Int32} {x2 : Int32} {x3 : Int32} {r : Int32 × StC} (hf : m_CX_has S x1 x2 x3 = some r) : KIC l D ad ca yk_0_has (.code yk_0_has bk_0_has 4 (some .boolean) :: tb) rm_CX_has [.ref (ad 0), .int x1, .int x2, .int x3] S r := by
  refine met_z (by decide) (Nat.le_of_ble_eq_true rfl) (fun p e s m below meth c A g hr hlk hK hA => ?_)
  replace g : CallFix p m c bk_0_has 4 s _ tb Rk_0 := g
  refine v_lv (lv' := [(0, .ref (ad 0)), (1, .int x1), (2, .int x2), (3, .int x3)]) rfl ?_
  unfold m_CX_has at hf
  refine v_aload_n g dk_0_has_0 0 rfl rfl (pc' := 1) rfl ?_
  refine gfC_X_19 g hK dk_0_has_1 (pc' := 4) rfl ?_
  refine v_iload_n g dk_0_has_4 1 rfl rfl (pc' := 5) rfl ?_
  obtain ⟨q1, hq, hf⟩ := bnd hf
  refine v_callV_i (As := [.int x1]) (rest := []) (r := q1) (S1 := S) g hK hA (c_CPlatforms_isThere hq) (kcC_X_90 g.2.2.2.2 rfl rfl (Nat.le_of_ble_eq_true rfl) (Nat.le_of_ble_eq_true rfl)) (ci := 6) (q0 := 5) rfl rfl rfl rfl rfl (Nat.le_of_ble_eq_true rfl) dk_0_has_5 (Nat.zero_le _) (Nat.zero_le _) (pc' := 8) rfl ?_
  refine v_if_eq (tgt := 18) (pc' := 11) g dk_0_has_8 (by decide) rfl (fun hc => ?_) (fun hc => ?_)
  · replace hf := ifT hc hf
    refine v_iconst (v := 0) g dk_0_has_18 (by decide) (pc' := 19) rfl ?_
    exact v_zret g hr hlk hK rfl (Option.some.inj hf) dk_0_has_19
  · replace hf := ifF hc hf
    refine v_iload_n g dk_0_has_11 2 rfl rfl (pc' := 12) rfl ?_
    obtain ⟨q2, hq, hf⟩ := bnd hf
    refine v_callS_i (As := [.int x2]) (rest := []) (r := q2) (S1 := S) g hK hA (c_CX_isAxis hq) (kcC_X_94 g.2.2.2.2 rfl rfl (Nat.le_of_ble_eq_true rfl) (Nat.le_of_ble_eq_true rfl)) rfl rfl (Nat.le_of_ble_eq_true rfl) dk_0_has_12 (Nat.zero_le _) (Nat.zero_le _) (pc' := 15) rfl ?_
    refine v_if_ne (tgt := 20) (pc' := 18) g dk_0_has_15 (by decide) rfl (fun hc => ?_) (fun hc => ?_)
    · replace hf := ifF hc hf
      refine v_iload_n g dk_0_has_20 3 rfl rfl (pc' := 21) rfl ?_
      refine v_iconst (v := (-1)) g dk_0_has_21 (by decide) (pc' := 22) rfl ?_
      refine v_icmp_eq (tgt := 32) (pc' := 25) g dk_0_has_22 (by decide) rfl (fun hc => ?_) (fun hc => ?_)
      · replace hf := ifT hc hf
        refine v_aload_n g dk_0_has_32 0 rfl rfl (pc' := 33) rfl ?_
        refine gfC_X_26 g hK dk_0_has_33 (pc' := 36) rfl ?_
        refine v_iload_n g dk_0_has_36 1 rfl rfl (pc' := 37) rfl ?_
        obtain ⟨q3, hq, hf⟩ := bnd hf
        refine v_callV_i (As := [.int x1]) (rest := []) (r := q3) (S1 := S) g hK hA (c_CConfigurations_anyOn hq) (kcC_X_100 g.2.2.2.2 rfl rfl (Nat.le_of_ble_eq_true rfl) (Nat.le_of_ble_eq_true rfl)) (ci := 3) (q0 := 7) rfl rfl rfl rfl rfl (Nat.le_of_ble_eq_true rfl) dk_0_has_37 (Nat.zero_le _) (Nat.zero_le _) (pc' := 40) rfl ?_
        refine v_if_eq (tgt := 45) (pc' := 43) g dk_0_has_40 (by decide) rfl (fun hc => ?_) (fun hc => ?_)
        · replace hf := ifT hc hf
          refine v_aload_n g dk_0_has_45 0 rfl rfl (pc' := 46) rfl ?_
          refine gfC_X_19 g hK dk_0_has_46 (pc' := 49) rfl ?_
          refine v_iload_n g dk_0_has_49 1 rfl rfl (pc' := 50) rfl ?_
          refine v_iload_n g dk_0_has_50 2 rfl rfl (pc' := 51) rfl ?_
          refine v_iload_n g dk_0_has_51 3 rfl rfl (pc' := 52) rfl ?_
          obtain ⟨q4, hq, hf⟩ := bnd hf
          refine v_callV_v (As := [.int x1, .int x2, .int x3]) (rest := []) (S1 := q4) g hK hA (c_CPlatforms_put hq) (kcC_X_103 g.2.2.2.2 rfl rfl (Nat.le_of_ble_eq_true rfl) (Nat.le_of_ble_eq_true rfl)) (ci := 6) (q0 := 5) rfl rfl rfl rfl rfl (Nat.le_of_ble_eq_true rfl) dk_0_has_52 (Nat.zero_le _) (Nat.zero_le _) (pc' := 55) rfl ?_
          refine v_iconst (v := 1) g dk_0_has_55 (by decide) (pc' := 56) rfl ?_
          exact v_zret g hr hlk hK rfl (Option.some.inj hf) dk_0_has_56
        · replace hf := ifF hc hf
          refine v_iconst (v := 0) g dk_0_has_43 (by decide) (pc' := 44) rfl ?_
          exact v_zret g hr hlk hK rfl (Option.some.inj hf) dk_0_has_44
      · replace hf := ifF hc hf
        refine v_iload_n g dk_0_has_25 3 rfl rfl (pc' := 26) rfl ?_
        obtain ⟨q5, hq, hf⟩ := bnd hf
        refine v_callS_i (As := [.int x3]) (rest := []) (r := q5) (S1 := S) g hK hA (c_CX_isValue hq) (kcC_X_97 g.2.2.2.2 rfl rfl (Nat.le_of_ble_eq_true rfl) (Nat.le_of_ble_eq_true rfl)) rfl rfl (Nat.le_of_ble_eq_true rfl) dk_0_has_26 (Nat.zero_le _) (Nat.zero_le _) (pc' := 29) rfl ?_
        refine v_if_eq (tgt := 43) (pc' := 32) g dk_0_has_29 (by decide) rfl (fun hc => ?_) (fun hc => ?_)
        · replace hf := ifT hc hf
          refine v_iconst (v := 0) g dk_0_has_43 (by decide) (pc' := 44) rfl ?_
          exact v_zret g hr hlk hK rfl (Option.some.inj hf) dk_0_has_44
        · replace hf := ifF hc hf
          refine v_aload_n g dk_0_has_32 0 rfl rfl (pc' := 33) rfl ?_
          refine gfC_X_26 g hK dk_0_has_33 (pc' := 36) rfl ?_
          refine v_iload_n g dk_0_has_36 1 rfl rfl (pc' := 37) rfl ?_
          obtain ⟨q6, hq, hf⟩ := bnd hf
          refine v_callV_i (As := [.int x1]) (rest := []) (r := q6) (S1 := S) g hK hA (c_CConfigurations_anyOn hq) (kcC_X_100 g.2.2.2.2 rfl rfl (Nat.le_of_ble_eq_true rfl) (Nat.le_of_ble_eq_true rfl)) (ci := 3) (q0 := 7) rfl rfl rfl rfl rfl (Nat.le_of_ble_eq_true rfl) dk_0_has_37 (Nat.zero_le _) (Nat.zero_le _) (pc' := 40) rfl ?_
          refine v_if_eq (tgt := 45) (pc' := 43) g dk_0_has_40 (by decide) rfl (fun hc => ?_) (fun hc => ?_)
          · replace hf := ifT hc hf
            refine v_aload_n g dk_0_has_45 0 rfl rfl (pc' := 46) rfl ?_
            refine gfC_X_19 g hK dk_0_has_46 (pc' := 49) rfl ?_
            refine v_iload_n g dk_0_has_49 1 rfl rfl (pc' := 50) rfl ?_
            refine v_iload_n g dk_0_has_50 2 rfl rfl (pc' := 51) rfl ?_
            refine v_iload_n g dk_0_has_51 3 rfl rfl (pc' := 52) rfl ?_
            obtain ⟨q7, hq, hf⟩ := bnd hf
            refine v_callV_v (As := [.int x1, .int x2, .int x3]) (rest := []) (S1 := q7) g hK hA (c_CPlatforms_put hq) (kcC_X_103 g.2.2.2.2 rfl rfl (Nat.le_of_ble_eq_true rfl) (Nat.le_of_ble_eq_true rfl)) (ci := 6) (q0 := 5) rfl rfl rfl rfl rfl (Nat.le_of_ble_eq_true rfl) dk_0_has_52 (Nat.zero_le _) (Nat.zero_le _) (pc' := 55) rfl ?_
            refine v_iconst (v := 1) g dk_0_has_55 (by decide) (pc' := 56) rfl ?_
            exact v_zret g hr hlk hK rfl (Option.some.inj hf) dk_0_has_56
          · replace hf := ifF hc hf
            refine v_iconst (v := 0) g dk_0_has_43 (by decide) (pc' := 44) rfl ?_
            exact v_zret g hr hlk hK rfl (Option.some.inj hf) dk_0_has_44
    · replace hf := ifT hc hf
      refine v_iconst (v := 0) g dk_0_has_18 (by decide) (pc' := 19) rfl ?_
      exact v_zret g hr hlk hK rfl (Option.some.inj hf) dk_0_has_19
abbrev rm_CConditions_add : Room := { frames := 0, cells := 0, slots := 0, locals := 0 }
def m_CConditions_add (S : StC) : Option (Int32 × StC) :=
  if (gI S 3) < 40 then some (gI S 3, sI S 3 ((gI S 3) + (1 : Int32)))
    else some ((-1), S)
set_option maxHeartbeats 4000000 in
set_option maxRecDepth 100000 in
theorem c_CConditions_add {l : Launch} {D : va_G} {ad : Nat → Nat} {ca : Nat → ClassId} {S : StC} {r : Int32 × StC} (hf : m_CConditions_add S = some r) : KIC l D ad ca yk_5_add (.code yk_5_add bk_5_add 1 (some .int) :: tb) rm_CConditions_add [.ref (ad 9)] S r := by
  refine met_i (by decide) (Nat.le_of_ble_eq_true rfl) (fun p e s m below meth c A g hr hlk hK hA => ?_)
  replace g : CallFix p m c bk_5_add 1 s _ tb Rk_5 := g
  refine v_lv (lv' := [(0, .ref (ad 9))]) rfl ?_
  unfold m_CConditions_add at hf
  refine v_aload_n g dk_5_add_0 0 rfl rfl (pc' := 1) rfl ?_
  refine gfC_Conditions_22 g hK dk_5_add_1 (pc' := 4) rfl ?_
  refine v_bipush (v := 40) g dk_5_add_4 (by decide) (pc' := 6) rfl ?_
  refine v_icmp_lt (tgt := 13) (pc' := 9) g dk_5_add_6 (by decide) rfl (fun hc => ?_) (fun hc => ?_)
  · replace hf := ifT hc hf
    refine v_aload_n g dk_5_add_13 0 rfl rfl (pc' := 14) rfl ?_
    refine v_dup g dk_5_add_14 rfl (pc' := 15) rfl ?_
    refine gfC_Conditions_22 g hK dk_5_add_15 (pc' := 18) rfl ?_
    refine v_dup_x1 g dk_5_add_18 rfl rfl (pc' := 19) rfl ?_
    refine v_iconst (v := 1) g dk_5_add_19 (by decide) (pc' := 20) rfl ?_
    refine v_iadd g dk_5_add_20 (pc' := 21) rfl ?_
    refine pfC_Conditions_22 g hK dk_5_add_21 (pc' := 24) rfl ?_
    exact v_iret g hr hlk hK  (Option.some.inj hf) dk_5_add_24
  · replace hf := ifF hc hf
    refine v_iconst (v := (-1)) g dk_5_add_9 (by decide) (pc' := 10) rfl ?_
    refine v_goto (tgt := 24) g dk_5_add_10 (by decide) ?_
    exact v_iret g hr hlk hK  (Option.some.inj hf) dk_5_add_24
abbrev rm_CX_condition : Room := { frames := 1, cells := 0, slots := 0, locals := 20 }
def m_CX_condition (S : StC) : Option (Int32 × StC) :=
  (m_CConditions_add S).bind fun q1 =>
    some (q1.1, q1.2)
set_option maxHeartbeats 4000000 in
set_option maxRecDepth 100000 in
theorem c_CX_condition {l : Launch} {D : va_G} {ad : Nat → Nat} {ca : Nat → ClassId} {S : StC} {r : Int32 × StC} (hf : m_CX_condition S = some r) : KIC l D ad ca yk_0_condition (.code yk_0_condition bk_0_condition 1 (some .int) :: tb) rm_CX_condition [.ref (ad 0)] S r := by
  refine met_i (by decide) (Nat.le_of_ble_eq_true rfl) (fun p e s m below meth c A g hr hlk hK hA => ?_)
  replace g : CallFix p m c bk_0_condition 1 s _ tb Rk_0 := g
  refine v_lv (lv' := [(0, .ref (ad 0))]) rfl ?_
  unfold m_CX_condition at hf
  refine v_aload_n g dk_0_condition_0 0 rfl rfl (pc' := 1) rfl ?_
  refine gfC_X_33 g hK dk_0_condition_1 (pc' := 4) rfl ?_
  obtain ⟨q1, hq, hf⟩ := bnd hf
  refine v_callV_i (As := []) (rest := []) (r := q1.1) (S1 := q1.2) g hK hA (c_CConditions_add hq) (kcC_X_107 g.2.2.2.2 rfl rfl (Nat.le_of_ble_eq_true rfl) (Nat.le_of_ble_eq_true rfl)) (ci := 2) (q0 := 9) rfl rfl rfl rfl rfl (Nat.le_of_ble_eq_true rfl) dk_0_condition_4 (Nat.zero_le _) (Nat.zero_le _) (pc' := 7) rfl ?_
  exact v_iret g hr hlk hK  (Option.some.inj hf) dk_0_condition_7
abbrev rm_CConditions_isThere : Room := { frames := 0, cells := 0, slots := 0, locals := 0 }
def m_CConditions_isThere (S : StC) (x1 : Int32) : Option Int32 :=
  if x1 < 0 then some 0
    else if (gI S 3) ≤ x1 then some 0
    else some 1
set_option maxHeartbeats 4000000 in
set_option maxRecDepth 100000 in
theorem c_CConditions_isThere {l : Launch} {D : va_G} {ad : Nat → Nat} {ca : Nat → ClassId} {S : StC} {x1 : Int32} {r : Int32} (hf : m_CConditions_isThere S x1 = some r) : KIC l D ad ca yk_5_isThere (.code yk_5_isThere bk_5_isThere 2 (some .boolean) :: tb) rm_CConditions_isThere [.ref (ad 9), .int x1] S (r, S) := by
  refine met_z (by decide) (Nat.le_of_ble_eq_true rfl) (fun p e s m below meth c A g hr hlk hK hA => ?_)
  replace g : CallFix p m c bk_5_isThere 2 s _ tb Rk_5 := g
  refine v_lv (lv' := [(0, .ref (ad 9)), (1, .int x1)]) rfl ?_
  unfold m_CConditions_isThere at hf
  refine v_iload_n g dk_5_isThere_0 1 rfl rfl (pc' := 1) rfl ?_
  refine v_if_lt (tgt := 16) (pc' := 4) g dk_5_isThere_1 (by decide) rfl (fun hc => ?_) (fun hc => ?_)
  · replace hf := ifT hc hf
    refine v_iconst (v := 0) g dk_5_isThere_16 (by decide) (pc' := 17) rfl ?_
    exact v_zret g hr hlk hK rfl (pinj hf) dk_5_isThere_17
  · replace hf := ifF hc hf
    refine v_iload_n g dk_5_isThere_4 1 rfl rfl (pc' := 5) rfl ?_
    refine v_aload_n g dk_5_isThere_5 0 rfl rfl (pc' := 6) rfl ?_
    refine gfC_Conditions_22 g hK dk_5_isThere_6 (pc' := 9) rfl ?_
    refine v_icmp_ge (tgt := 16) (pc' := 12) g dk_5_isThere_9 (by decide) rfl (fun hc => ?_) (fun hc => ?_)
    · replace hf := ifT hc hf
      refine v_iconst (v := 0) g dk_5_isThere_16 (by decide) (pc' := 17) rfl ?_
      exact v_zret g hr hlk hK rfl (pinj hf) dk_5_isThere_17
    · replace hf := ifF hc hf
      refine v_iconst (v := 1) g dk_5_isThere_12 (by decide) (pc' := 13) rfl ?_
      refine v_goto (tgt := 17) g dk_5_isThere_13 (by decide) ?_
      exact v_zret g hr hlk hK rfl (pinj hf) dk_5_isThere_17
abbrev rm_CAskings_codeOf : Room := { frames := 0, cells := 0, slots := 0, locals := 0 }
def m_CAskings_codeOf (S : StC) (x0 : Int32) (x1 : Int32) (x2 : Int32) : Option Int32 :=
  if x0 = 0 then some (((0 : Int32) + (x1 * (8 : Int32))) + x2)
    else some (((128 : Int32) + (x1 * (8 : Int32))) + x2)
set_option maxHeartbeats 4000000 in
set_option maxRecDepth 100000 in
theorem c_CAskings_codeOf {l : Launch} {D : va_G} {ad : Nat → Nat} {ca : Nat → ClassId} {S : StC} {x0 : Int32} {x1 : Int32} {x2 : Int32} {r : Int32} (hf : m_CAskings_codeOf S x0 x1 x2 = some r) : KIC l D ad ca yk_2_codeOf (.code yk_2_codeOf bk_2_codeOf 3 (some .int) :: tb) rm_CAskings_codeOf [.int x0, .int x1, .int x2] S (r, S) := by
  refine met_i (by decide) (Nat.le_of_ble_eq_true rfl) (fun p e s m below meth c A g hr hlk hK hA => ?_)
  replace g : CallFix p m c bk_2_codeOf 3 s _ tb Rk_2 := g
  refine v_lv (lv' := [(0, .int x0), (1, .int x1), (2, .int x2)]) rfl ?_
  unfold m_CAskings_codeOf at hf
  refine v_iload_n g dk_2_codeOf_0 0 rfl rfl (pc' := 1) rfl ?_
  refine v_if_eq (tgt := 10) (pc' := 4) g dk_2_codeOf_1 (by decide) rfl (fun hc => ?_) (fun hc => ?_)
  · replace hf := ifT hc hf
    refine v_iconst (v := 0) g dk_2_codeOf_10 (by decide) (pc' := 11) rfl ?_
    refine v_iload_n g dk_2_codeOf_11 1 rfl rfl (pc' := 12) rfl ?_
    refine v_bipush (v := 8) g dk_2_codeOf_12 (by decide) (pc' := 14) rfl ?_
    refine v_imul g dk_2_codeOf_14 (pc' := 15) rfl ?_
    refine v_iadd g dk_2_codeOf_15 (pc' := 16) rfl ?_
    refine v_iload_n g dk_2_codeOf_16 2 rfl rfl (pc' := 17) rfl ?_
    refine v_iadd g dk_2_codeOf_17 (pc' := 18) rfl ?_
    exact v_iret g hr hlk hK  (pinj hf) dk_2_codeOf_18
  · replace hf := ifF hc hf
    refine v_sipush (v := 128) g dk_2_codeOf_4 (by decide) (pc' := 7) rfl ?_
    refine v_goto (tgt := 11) g dk_2_codeOf_7 (by decide) ?_
    refine v_iload_n g dk_2_codeOf_11 1 rfl rfl (pc' := 12) rfl ?_
    refine v_bipush (v := 8) g dk_2_codeOf_12 (by decide) (pc' := 14) rfl ?_
    refine v_imul g dk_2_codeOf_14 (pc' := 15) rfl ?_
    refine v_iadd g dk_2_codeOf_15 (pc' := 16) rfl ?_
    refine v_iload_n g dk_2_codeOf_16 2 rfl rfl (pc' := 17) rfl ?_
    refine v_iadd g dk_2_codeOf_17 (pc' := 18) rfl ?_
    exact v_iret g hr hlk hK  (pinj hf) dk_2_codeOf_18
abbrev rm_CConditions_askingAt : Room := { frames := 0, cells := 0, slots := 0, locals := 0 }
def m_CConditions_askingAt (S : StC) (x1 : Int32) (x2 : Int32) : Option Int32 :=
  if inb ((x1 * (6 : Int32)) + x2) 240 = true then some (gA S 5 ((x1 * (6 : Int32)) + x2).toNatClampNeg) else none
set_option maxHeartbeats 4000000 in
set_option maxRecDepth 100000 in
theorem c_CConditions_askingAt {l : Launch} {D : va_G} {ad : Nat → Nat} {ca : Nat → ClassId} {S : StC} {x1 : Int32} {x2 : Int32} {r : Int32} (hf : m_CConditions_askingAt S x1 x2 = some r) : KIC l D ad ca yk_5_askingAt (.code yk_5_askingAt bk_5_askingAt 3 (some .int) :: tb) rm_CConditions_askingAt [.ref (ad 9), .int x1, .int x2] S (r, S) := by
  refine met_i (by decide) (Nat.le_of_ble_eq_true rfl) (fun p e s m below meth c A g hr hlk hK hA => ?_)
  replace g : CallFix p m c bk_5_askingAt 3 s _ tb Rk_5 := g
  refine v_lv (lv' := [(0, .ref (ad 9)), (1, .int x1), (2, .int x2)]) rfl ?_
  unfold m_CConditions_askingAt at hf
  refine v_aload_n g dk_5_askingAt_0 0 rfl rfl (pc' := 1) rfl ?_
  refine gfC_Conditions_15 g hK dk_5_askingAt_1 (pc' := 4) rfl ?_
  refine v_iload_n g dk_5_askingAt_4 1 rfl rfl (pc' := 5) rfl ?_
  refine v_bipush (v := 6) g dk_5_askingAt_5 (by decide) (pc' := 7) rfl ?_
  refine v_imul g dk_5_askingAt_7 (pc' := 8) rfl ?_
  refine v_iload_n g dk_5_askingAt_8 2 rfl rfl (pc' := 9) rfl ?_
  refine v_iadd g dk_5_askingAt_9 (pc' := 10) rfl ?_
  obtain ⟨hb1, hf⟩ := grd hf
  refine alC_11 g hK hb1 dk_5_askingAt_10 (pc' := 11) rfl ?_
  exact v_iret g hr hlk hK  (pinj hf) dk_5_askingAt_11
abbrev rm_CConditions_addAsking : Room := { frames := 1, cells := 0, slots := 0, locals := 22 }
def L_CConditions_addAsking_27 (S : StC) (x1 : Int32) (x2 : Int32) (x3 : Int32) : Nat → Int32 → Option (Unit ⊕ (Int32 × StC))
  | 0, _ => none
  | n + 1, x4 =>
    if x3 ≤ x4 then some (.inl ())
    else (m_CConditions_askingAt S x1 x4).bind fun q2 =>
    if q2 = x2 then some (.inr (0, S))
    else L_CConditions_addAsking_27 S x1 x2 x3 n (x4 + 1)
set_option maxHeartbeats 4000000 in
set_option maxRecDepth 100000 in
theorem w_CConditions_addAsking_27 {p : Program} {l : Launch} {e : Env} {s : State} {m : MethodId} {args : Array Value} {below : List Frame} {meth : Method} {c : Code} {A : Nat → Prop} {D : va_G} {ad : Nat → Nat} {ca : Nat → ClassId} {Rm : Int32 × StC} {S : StC} {x1 : Int32} {x2 : Int32} {x3 : Int32} (g : CallFix p m c bk_5_addAsking 5 s args tb Rk_5) (hr : meth.sig.returnType = some .boolean) (hlk : meth.locks = false) (hK : va_K D vwCl (tyC ca) s) (hA : ∀ q, s.heap.size ≤ q → A q) : ∀ (n : Nat) (x4 : Int32) (o : Unit ⊕ (Int32 × StC)), L_CConditions_addAsking_27 S x1 x2 x3 n x4 = some o → (∀ y, o = .inl y → Vj p l e rm_CConditions_addAsking s m args below meth c (MQ below (qI D vwCl (tyC ca) (wdC ad ca) A Rm) args s 0 0 A) D vwCl A 5 0 0 (wdC ad ca S) 52 [(0, .ref (ad 9)), (1, .int x1), (2, .int x2), (3, .int x3)] []) → (∀ r, o = .inr r → r = Rm) → Vj p l e rm_CConditions_addAsking s m args below meth c (MQ below (qI D vwCl (tyC ca) (wdC ad ca) A Rm) args s 0 0 A) D vwCl A 5 0 0 (wdC ad ca S) 27 [(0, .ref (ad 9)), (1, .int x1), (2, .int x2), (3, .int x3), (4, .int x4)] [] := by
  intro n
  induction n with
  | zero => intro x4 o hf; exact nomatch (show none = some o from hf)
  | succ n ih =>
    intro x4 o hf hx hret
    rw [L_CConditions_addAsking_27] at hf
    refine v_iload g dk_5_addAsking_27 4 rfl (pc' := 29) rfl ?_
    refine v_iload_n g dk_5_addAsking_29 3 rfl rfl (pc' := 30) rfl ?_
    refine v_icmp_ge (tgt := 52) (pc' := 33) g dk_5_addAsking_30 (by decide) rfl (fun hc => ?_) (fun hc => ?_)
    · replace hf := ifT hc hf
      refine v_sub [0, 1, 2, 3] rfl ?_
      exact hx _ (Option.some.inj hf).symm
    · replace hf := ifF hc hf
      refine v_aload_n g dk_5_addAsking_33 0 rfl rfl (pc' := 34) rfl ?_
      refine v_iload_n g dk_5_addAsking_34 1 rfl rfl (pc' := 35) rfl ?_
      refine v_iload g dk_5_addAsking_35 4 rfl (pc' := 37) rfl ?_
      obtain ⟨q2, hq, hf⟩ := bnd hf
      refine v_callV_i (As := [.int x1, .int x4]) (rest := []) (r := q2) (S1 := S) g hK hA (c_CConditions_askingAt hq) (kcC_Conditions_26 g.2.2.2.2 rfl rfl (Nat.le_of_ble_eq_true rfl) (Nat.le_of_ble_eq_true rfl)) (ci := 2) (q0 := 9) rfl rfl rfl rfl rfl (Nat.le_of_ble_eq_true rfl) dk_5_addAsking_37 (Nat.zero_le _) (Nat.zero_le _) (pc' := 40) rfl ?_
      refine v_iload_n g dk_5_addAsking_40 2 rfl rfl (pc' := 41) rfl ?_
      refine v_icmp_ne (tgt := 46) (pc' := 44) g dk_5_addAsking_41 (by decide) rfl (fun hc => ?_) (fun hc => ?_)
      · replace hf := ifF hc hf
        refine v_iinc (j := 4) (v := x4 + 1) (lv' := [(4, .int (x4 + 1)), (0, .ref (ad 9)), (1, .int x1), (2, .int x2), (3, .int x3)]) g dk_5_addAsking_46 rfl rfl (by decide) rfl (pc' := 49) rfl ?_
        refine v_goto (tgt := 27) g dk_5_addAsking_49 (by decide) ?_
        refine v_sub [1, 2, 3, 4, 0] rfl ?_
        exact ih (x4 + 1) o hf hx hret
      · replace hf := ifT hc hf
        refine v_iconst (v := 0) g dk_5_addAsking_44 (by decide) (pc' := 45) rfl ?_
        exact v_zret g hr hlk hK rfl (hret _ (Option.some.inj hf).symm) dk_5_addAsking_45
def m_CConditions_addAsking (S : StC) (x1 : Int32) (x2 : Int32) : Option (Int32 × StC) :=
  if inb x1 40 = true then if (gA S 6 x1.toNatClampNeg) = 0 then if (gA S 4 x1.toNatClampNeg) < 6 then (L_CConditions_addAsking_27 S x1 x2 (gA S 4 x1.toNatClampNeg) 100 0).bind fun o3 => exK o3 fun y4 =>
    if inb ((x1 * (6 : Int32)) + (gA S 4 x1.toNatClampNeg)) 240 = true then some (1, tA (tA S 5 ((x1 * (6 : Int32)) + (gA S 4 x1.toNatClampNeg)) x2) 4 x1 ((gA S 4 x1.toNatClampNeg) + (1 : Int32))) else none
    else some (0, S)
    else some (0, S) else none
set_option maxHeartbeats 4000000 in
set_option maxRecDepth 100000 in
theorem c_CConditions_addAsking {l : Launch} {D : va_G} {ad : Nat → Nat} {ca : Nat → ClassId} {S : StC} {x1 : Int32} {x2 : Int32} {r : Int32 × StC} (hf : m_CConditions_addAsking S x1 x2 = some r) : KIC l D ad ca yk_5_addAsking (.code yk_5_addAsking bk_5_addAsking 5 (some .boolean) :: tb) rm_CConditions_addAsking [.ref (ad 9), .int x1, .int x2] S r := by
  refine met_z (by decide) (Nat.le_of_ble_eq_true rfl) (fun p e s m below meth c A g hr hlk hK hA => ?_)
  replace g : CallFix p m c bk_5_addAsking 5 s _ tb Rk_5 := g
  refine v_lv (lv' := [(0, .ref (ad 9)), (1, .int x1), (2, .int x2)]) rfl ?_
  unfold m_CConditions_addAsking at hf
  refine v_aload_n g dk_5_addAsking_0 0 rfl rfl (pc' := 1) rfl ?_
  refine gfC_Conditions_9 g hK dk_5_addAsking_1 (pc' := 4) rfl ?_
  refine v_iload_n g dk_5_addAsking_4 1 rfl rfl (pc' := 5) rfl ?_
  obtain ⟨hb1, hf⟩ := grd hf
  refine alC_10 g hK hb1 dk_5_addAsking_5 (pc' := 6) rfl ?_
  refine v_istore_n (lv' := [(3, .int (gA S 4 x1.toNatClampNeg)), (0, .ref (ad 9)), (1, .int x1), (2, .int x2)]) g dk_5_addAsking_6 rfl (by decide) rfl (pc' := 7) rfl ?_
  refine v_aload_n g dk_5_addAsking_7 1 rfl rfl (pc' := 8) rfl ?_
  refine gfC_Conditions_18 g hK dk_5_addAsking_8 (pc' := 11) rfl ?_
  refine v_iload_n g dk_5_addAsking_11 2 rfl rfl (pc' := 12) rfl ?_
  refine alC_12 g hK hb1 dk_5_addAsking_12 (pc' := 13) rfl ?_
  refine v_if_ne (tgt := 22) (pc' := 16) g dk_5_addAsking_13 (by decide) rfl (fun hc => ?_) (fun hc => ?_)
  · replace hf := ifF hc hf
    refine v_iconst (v := 0) g dk_5_addAsking_22 (by decide) (pc' := 23) rfl ?_
    exact v_zret g hr hlk hK rfl (Option.some.inj hf) dk_5_addAsking_23
  · replace hf := ifT hc hf
    refine v_iload_n g dk_5_addAsking_16 0 rfl rfl (pc' := 17) rfl ?_
    refine v_bipush (v := 6) g dk_5_addAsking_17 (by decide) (pc' := 19) rfl ?_
    refine v_icmp_lt (tgt := 24) (pc' := 22) g dk_5_addAsking_19 (by decide) rfl (fun hc => ?_) (fun hc => ?_)
    · replace hf := ifT hc hf
      refine v_iconst (v := 0) g dk_5_addAsking_24 (by decide) (pc' := 25) rfl ?_
      refine v_istore (lv' := [(4, .int 0), (3, .int (gA S 4 x1.toNatClampNeg)), (0, .ref (ad 9)), (1, .int x1), (2, .int x2)]) g dk_5_addAsking_25 (by decide) rfl (pc' := 27) rfl ?_
      refine v_sub [2, 3, 4, 1, 0] rfl ?_
      obtain ⟨o3, hL, hf⟩ := bnd hf
      refine w_CConditions_addAsking_27 g hr hlk hK hA 100 0 _ hL (fun y4 hy => ?_) (fun r9 hy => ?_)
      · subst hy
        replace hf := exKl hf
        refine v_aload_n g dk_5_addAsking_52 0 rfl rfl (pc' := 53) rfl ?_
        refine gfC_Conditions_15 g hK dk_5_addAsking_53 (pc' := 56) rfl ?_
        refine v_iload_n g dk_5_addAsking_56 1 rfl rfl (pc' := 57) rfl ?_
        refine v_bipush (v := 6) g dk_5_addAsking_57 (by decide) (pc' := 59) rfl ?_
        refine v_imul g dk_5_addAsking_59 (pc' := 60) rfl ?_
        refine v_iload_n g dk_5_addAsking_60 3 rfl rfl (pc' := 61) rfl ?_
        refine v_iadd g dk_5_addAsking_61 (pc' := 62) rfl ?_
        refine v_iload_n g dk_5_addAsking_62 2 rfl rfl (pc' := 63) rfl ?_
        obtain ⟨hb5, hf⟩ := grd hf
        refine asC_11 g hK hb5 dk_5_addAsking_63 (pc' := 64) rfl ?_
        refine v_aload_n g dk_5_addAsking_64 0 rfl rfl (pc' := 65) rfl ?_
        refine gfC_Conditions_9 g hK dk_5_addAsking_65 (pc' := 68) rfl ?_
        refine v_iload_n g dk_5_addAsking_68 1 rfl rfl (pc' := 69) rfl ?_
        refine v_iload_n g dk_5_addAsking_69 3 rfl rfl (pc' := 70) rfl ?_
        refine v_iconst (v := 1) g dk_5_addAsking_70 (by decide) (pc' := 71) rfl ?_
        refine v_iadd g dk_5_addAsking_71 (pc' := 72) rfl ?_
        refine asC_10 g hK hb1 dk_5_addAsking_72 (pc' := 73) rfl ?_
        refine v_iconst (v := 1) g dk_5_addAsking_73 (by decide) (pc' := 74) rfl ?_
        exact v_zret g hr hlk hK rfl (Option.some.inj hf) dk_5_addAsking_74
      · subst hy
        exact Option.some.inj hf
    · replace hf := ifF hc hf
      refine v_iconst (v := 0) g dk_5_addAsking_22 (by decide) (pc' := 23) rfl ?_
      exact v_zret g hr hlk hK rfl (Option.some.inj hf) dk_5_addAsking_23
abbrev rm_CX_asks : Room := { frames := 2, cells := 0, slots := 0, locals := 46 }
def m_CX_asks (S : StC) (x1 : Int32) (x2 : Int32) (x3 : Int32) (x4 : Int32) : Option (Int32 × StC) :=
  (m_CConditions_isThere S x1).bind fun q1 =>
    if q1 = 0 then some (0, S)
    else (m_CX_isValue S x4).bind fun q2 =>
    if q2 = 0 then some (0, S)
    else if x2 = 0 then (m_CSettings_isThere S x3).bind fun q3 =>
    if q3 = 0 then some (0, S)
    else (m_CAskings_codeOf S x2 x3 x4).bind fun q4 =>
    (m_CConditions_addAsking S x1 q4).bind fun q5 =>
    if isB q5.1 = true then some (q5.1, q5.2) else none
    else (m_CX_isAxis S x3).bind fun q6 =>
    if q6 = 0 then some (0, S)
    else (m_CAskings_codeOf S x2 x3 x4).bind fun q7 =>
    (m_CConditions_addAsking S x1 q7).bind fun q8 =>
    if isB q8.1 = true then some (q8.1, q8.2) else none
set_option maxHeartbeats 4000000 in
set_option maxRecDepth 100000 in
theorem c_CX_asks {l : Launch} {D : va_G} {ad : Nat → Nat} {ca : Nat → ClassId} {S : StC} {x1 : Int32} {x2 : Int32} {x3 : Int32} {x4 : Int32} {r : Int32 × StC} (hf : m_CX_asks S x1 x2 x3 x4 = some r) : KIC l D ad ca yk_0_asks (.code yk_0_asks bk_0_asks 5 (some .boolean) :: tb) rm_CX_asks [.ref (ad 0), .int x1, .int x2, .int x3, .int x4] S r := by
  refine met_z (by decide) (Nat.le_of_ble_eq_true rfl) (fun p e s m below meth c A g hr hlk hK hA => ?_)
  replace g : CallFix p m c bk_0_asks 5 s _ tb Rk_0 := g
  refine v_lv (lv' := [(0, .ref (ad 0)), (1, .int x1), (2, .int x2), (3, .int x3), (4, .int x4)]) rfl ?_
  unfold m_CX_asks at hf
  refine v_aload_n g dk_0_asks_0 0 rfl rfl (pc' := 1) rfl ?_
  refine gfC_X_33 g hK dk_0_asks_1 (pc' := 4) rfl ?_
  refine v_iload_n g dk_0_asks_4 1 rfl rfl (pc' := 5) rfl ?_
  obtain ⟨q1, hq, hf⟩ := bnd hf
  refine v_callV_i (As := [.int x1]) (rest := []) (r := q1) (S1 := S) g hK hA (c_CConditions_isThere hq) (kcC_X_108 g.2.2.2.2 rfl rfl (Nat.le_of_ble_eq_true rfl) (Nat.le_of_ble_eq_true rfl)) (ci := 2) (q0 := 9) rfl rfl rfl rfl rfl (Nat.le_of_ble_eq_true rfl) dk_0_asks_5 (Nat.zero_le _) (Nat.zero_le _) (pc' := 8) rfl ?_
  refine v_if_eq (tgt := 19) (pc' := 11) g dk_0_asks_8 (by decide) rfl (fun hc => ?_) (fun hc => ?_)
  · replace hf := ifT hc hf
    refine v_iconst (v := 0) g dk_0_asks_19 (by decide) (pc' := 20) rfl ?_
    exact v_zret g hr hlk hK rfl (Option.some.inj hf) dk_0_asks_20
  · replace hf := ifF hc hf
    refine v_iload g dk_0_asks_11 4 rfl (pc' := 13) rfl ?_
    obtain ⟨q2, hq, hf⟩ := bnd hf
    refine v_callS_i (As := [.int x4]) (rest := []) (r := q2) (S1 := S) g hK hA (c_CX_isValue hq) (kcC_X_97 g.2.2.2.2 rfl rfl (Nat.le_of_ble_eq_true rfl) (Nat.le_of_ble_eq_true rfl)) rfl rfl (Nat.le_of_ble_eq_true rfl) dk_0_asks_13 (Nat.zero_le _) (Nat.zero_le _) (pc' := 16) rfl ?_
    refine v_if_ne (tgt := 21) (pc' := 19) g dk_0_asks_16 (by decide) rfl (fun hc => ?_) (fun hc => ?_)
    · replace hf := ifF hc hf
      refine v_iload_n g dk_0_asks_21 2 rfl rfl (pc' := 22) rfl ?_
      refine v_if_eq (tgt := 35) (pc' := 25) g dk_0_asks_22 (by decide) rfl (fun hc => ?_) (fun hc => ?_)
      · replace hf := ifT hc hf
        refine v_aload_n g dk_0_asks_35 0 rfl rfl (pc' := 36) rfl ?_
        refine gfC_X_12 g hK dk_0_asks_36 (pc' := 39) rfl ?_
        refine v_iload_n g dk_0_asks_39 3 rfl rfl (pc' := 40) rfl ?_
        obtain ⟨q3, hq, hf⟩ := bnd hf
        refine v_callV_i (As := [.int x3]) (rest := []) (r := q3) (S1 := S) g hK hA (c_CSettings_isThere hq) (kcC_X_109 g.2.2.2.2 rfl rfl (Nat.le_of_ble_eq_true rfl) (Nat.le_of_ble_eq_true rfl)) (ci := 8) (q0 := 1) rfl rfl rfl rfl rfl (Nat.le_of_ble_eq_true rfl) dk_0_asks_40 (Nat.zero_le _) (Nat.zero_le _) (pc' := 43) rfl ?_
        refine v_if_ne (tgt := 48) (pc' := 46) g dk_0_asks_43 (by decide) rfl (fun hc => ?_) (fun hc => ?_)
        · replace hf := ifF hc hf
          refine v_aload_n g dk_0_asks_48 0 rfl rfl (pc' := 49) rfl ?_
          refine gfC_X_33 g hK dk_0_asks_49 (pc' := 52) rfl ?_
          refine v_iload_n g dk_0_asks_52 1 rfl rfl (pc' := 53) rfl ?_
          refine v_iload_n g dk_0_asks_53 2 rfl rfl (pc' := 54) rfl ?_
          refine v_iload_n g dk_0_asks_54 3 rfl rfl (pc' := 55) rfl ?_
          refine v_iload g dk_0_asks_55 4 rfl (pc' := 57) rfl ?_
          obtain ⟨q4, hq, hf⟩ := bnd hf
          refine v_callS_i (As := [.int x2, .int x3, .int x4]) (rest := [.int x1, .ref (ad 9)]) (r := q4) (S1 := S) g hK hA (c_CAskings_codeOf hq) (kcC_X_110 g.2.2.2.2 rfl rfl (Nat.le_of_ble_eq_true rfl) (Nat.le_of_ble_eq_true rfl)) rfl rfl (Nat.le_of_ble_eq_true rfl) dk_0_asks_57 (Nat.zero_le _) (Nat.zero_le _) (pc' := 60) rfl ?_
          obtain ⟨q5, hq, hf⟩ := bnd hf
          refine v_callV_i (As := [.int x1, .int q4]) (rest := []) (r := q5.1) (S1 := q5.2) g hK hA (c_CConditions_addAsking hq) (kcC_X_116 g.2.2.2.2 rfl rfl (Nat.le_of_ble_eq_true rfl) (Nat.le_of_ble_eq_true rfl)) (ci := 2) (q0 := 9) rfl rfl rfl rfl rfl (Nat.le_of_ble_eq_true rfl) dk_0_asks_60 (Nat.zero_le _) (Nat.zero_le _) (pc' := 63) rfl ?_
          obtain ⟨hz, hf⟩ := grd hf
          exact v_zret g hr hlk hK hz (Option.some.inj hf) dk_0_asks_63
        · replace hf := ifT hc hf
          refine v_iconst (v := 0) g dk_0_asks_46 (by decide) (pc' := 47) rfl ?_
          exact v_zret g hr hlk hK rfl (Option.some.inj hf) dk_0_asks_47
      · replace hf := ifF hc hf
        refine v_iload_n g dk_0_asks_25 3 rfl rfl (pc' := 26) rfl ?_
        obtain ⟨q6, hq, hf⟩ := bnd hf
        refine v_callS_i (As := [.int x3]) (rest := []) (r := q6) (S1 := S) g hK hA (c_CX_isAxis hq) (kcC_X_94 g.2.2.2.2 rfl rfl (Nat.le_of_ble_eq_true rfl) (Nat.le_of_ble_eq_true rfl)) rfl rfl (Nat.le_of_ble_eq_true rfl) dk_0_asks_26 (Nat.zero_le _) (Nat.zero_le _) (pc' := 29) rfl ?_
        refine v_if_ne (tgt := 48) (pc' := 32) g dk_0_asks_29 (by decide) rfl (fun hc => ?_) (fun hc => ?_)
        · replace hf := ifF hc hf
          refine v_aload_n g dk_0_asks_48 0 rfl rfl (pc' := 49) rfl ?_
          refine gfC_X_33 g hK dk_0_asks_49 (pc' := 52) rfl ?_
          refine v_iload_n g dk_0_asks_52 1 rfl rfl (pc' := 53) rfl ?_
          refine v_iload_n g dk_0_asks_53 2 rfl rfl (pc' := 54) rfl ?_
          refine v_iload_n g dk_0_asks_54 3 rfl rfl (pc' := 55) rfl ?_
          refine v_iload g dk_0_asks_55 4 rfl (pc' := 57) rfl ?_
          obtain ⟨q7, hq, hf⟩ := bnd hf
          refine v_callS_i (As := [.int x2, .int x3, .int x4]) (rest := [.int x1, .ref (ad 9)]) (r := q7) (S1 := S) g hK hA (c_CAskings_codeOf hq) (kcC_X_110 g.2.2.2.2 rfl rfl (Nat.le_of_ble_eq_true rfl) (Nat.le_of_ble_eq_true rfl)) rfl rfl (Nat.le_of_ble_eq_true rfl) dk_0_asks_57 (Nat.zero_le _) (Nat.zero_le _) (pc' := 60) rfl ?_
          obtain ⟨q8, hq, hf⟩ := bnd hf
          refine v_callV_i (As := [.int x1, .int q7]) (rest := []) (r := q8.1) (S1 := q8.2) g hK hA (c_CConditions_addAsking hq) (kcC_X_116 g.2.2.2.2 rfl rfl (Nat.le_of_ble_eq_true rfl) (Nat.le_of_ble_eq_true rfl)) (ci := 2) (q0 := 9) rfl rfl rfl rfl rfl (Nat.le_of_ble_eq_true rfl) dk_0_asks_60 (Nat.zero_le _) (Nat.zero_le _) (pc' := 63) rfl ?_
          obtain ⟨hz, hf⟩ := grd hf
          exact v_zret g hr hlk hK hz (Option.some.inj hf) dk_0_asks_63
        · replace hf := ifT hc hf
          refine v_goto (tgt := 46) g dk_0_asks_32 (by decide) ?_
          refine v_iconst (v := 0) g dk_0_asks_46 (by decide) (pc' := 47) rfl ?_
          exact v_zret g hr hlk hK rfl (Option.some.inj hf) dk_0_asks_47
    · replace hf := ifT hc hf
      refine v_iconst (v := 0) g dk_0_asks_19 (by decide) (pc' := 20) rfl ?_
      exact v_zret g hr hlk hK rfl (Option.some.inj hf) dk_0_asks_20
abbrev rm_CTargets_add : Room := { frames := 0, cells := 0, slots := 0, locals := 0 }
def m_CTargets_add (S : StC) : Option (Int32 × StC) :=
  if (gI S 4) < 16 then if inb (gI S 4) 16 = true then some (gI S 4, sI (tA S 7 (gI S 4) (-1)) 4 ((gI S 4) + (1 : Int32))) else none
    else some ((-1), S)
set_option maxHeartbeats 4000000 in
set_option maxRecDepth 100000 in
theorem c_CTargets_add {l : Launch} {D : va_G} {ad : Nat → Nat} {ca : Nat → ClassId} {S : StC} {r : Int32 × StC} (hf : m_CTargets_add S = some r) : KIC l D ad ca yk_12_add (.code yk_12_add bk_12_add 1 (some .int) :: tb) rm_CTargets_add [.ref (ad 13)] S r := by
  refine met_i (by decide) (Nat.le_of_ble_eq_true rfl) (fun p e s m below meth c A g hr hlk hK hA => ?_)
  replace g : CallFix p m c bk_12_add 1 s _ tb Rk_12 := g
  refine v_lv (lv' := [(0, .ref (ad 13))]) rfl ?_
  unfold m_CTargets_add at hf
  refine v_aload_n g dk_12_add_0 0 rfl rfl (pc' := 1) rfl ?_
  refine gfC_Targets_18 g hK dk_12_add_1 (pc' := 4) rfl ?_
  refine v_bipush (v := 16) g dk_12_add_4 (by decide) (pc' := 6) rfl ?_
  refine v_icmp_lt (tgt := 11) (pc' := 9) g dk_12_add_6 (by decide) rfl (fun hc => ?_) (fun hc => ?_)
  · replace hf := ifT hc hf
    refine v_aload_n g dk_12_add_11 0 rfl rfl (pc' := 12) rfl ?_
    refine gfC_Targets_9 g hK dk_12_add_12 (pc' := 15) rfl ?_
    refine v_aload_n g dk_12_add_15 0 rfl rfl (pc' := 16) rfl ?_
    refine gfC_Targets_18 g hK dk_12_add_16 (pc' := 19) rfl ?_
    refine v_iconst (v := (-1)) g dk_12_add_19 (by decide) (pc' := 20) rfl ?_
    obtain ⟨hb1, hf⟩ := grd hf
    refine asC_14 g hK hb1 dk_12_add_20 (pc' := 21) rfl ?_
    refine v_aload_n g dk_12_add_21 0 rfl rfl (pc' := 22) rfl ?_
    refine v_dup g dk_12_add_22 rfl (pc' := 23) rfl ?_
    refine gfC_Targets_18 g hK dk_12_add_23 (pc' := 26) rfl ?_
    refine v_dup_x1 g dk_12_add_26 rfl rfl (pc' := 27) rfl ?_
    refine v_iconst (v := 1) g dk_12_add_27 (by decide) (pc' := 28) rfl ?_
    refine v_iadd g dk_12_add_28 (pc' := 29) rfl ?_
    refine pfC_Targets_18 g hK dk_12_add_29 (pc' := 32) rfl ?_
    exact v_iret g hr hlk hK  (Option.some.inj hf) dk_12_add_32
  · replace hf := ifF hc hf
    refine v_iconst (v := (-1)) g dk_12_add_9 (by decide) (pc' := 10) rfl ?_
    exact v_iret g hr hlk hK  (Option.some.inj hf) dk_12_add_10
abbrev rm_CX_target : Room := { frames := 1, cells := 0, slots := 0, locals := 20 }
def m_CX_target (S : StC) : Option (Int32 × StC) :=
  (m_CTargets_add S).bind fun q1 =>
    some (q1.1, q1.2)
set_option maxHeartbeats 4000000 in
set_option maxRecDepth 100000 in
theorem c_CX_target {l : Launch} {D : va_G} {ad : Nat → Nat} {ca : Nat → ClassId} {S : StC} {r : Int32 × StC} (hf : m_CX_target S = some r) : KIC l D ad ca yk_0_target (.code yk_0_target bk_0_target 1 (some .int) :: tb) rm_CX_target [.ref (ad 0)] S r := by
  refine met_i (by decide) (Nat.le_of_ble_eq_true rfl) (fun p e s m below meth c A g hr hlk hK hA => ?_)
  replace g : CallFix p m c bk_0_target 1 s _ tb Rk_0 := g
  refine v_lv (lv' := [(0, .ref (ad 0))]) rfl ?_
  unfold m_CX_target at hf
  refine v_aload_n g dk_0_target_0 0 rfl rfl (pc' := 1) rfl ?_
  refine gfC_X_40 g hK dk_0_target_1 (pc' := 4) rfl ?_
  obtain ⟨q1, hq, hf⟩ := bnd hf
  refine v_callV_i (As := []) (rest := []) (r := q1.1) (S1 := q1.2) g hK hA (c_CTargets_add hq) (kcC_X_120 g.2.2.2.2 rfl rfl (Nat.le_of_ble_eq_true rfl) (Nat.le_of_ble_eq_true rfl)) (ci := 9) (q0 := 13) rfl rfl rfl rfl rfl (Nat.le_of_ble_eq_true rfl) dk_0_target_4 (Nat.zero_le _) (Nat.zero_le _) (pc' := 7) rfl ?_
  exact v_iret g hr hlk hK  (Option.some.inj hf) dk_0_target_7
abbrev rm_CTargets_isThere : Room := { frames := 0, cells := 0, slots := 0, locals := 0 }
def m_CTargets_isThere (S : StC) (x1 : Int32) : Option Int32 :=
  if x1 < 0 then some 0
    else if (gI S 4) ≤ x1 then some 0
    else some 1
set_option maxHeartbeats 4000000 in
set_option maxRecDepth 100000 in
theorem c_CTargets_isThere {l : Launch} {D : va_G} {ad : Nat → Nat} {ca : Nat → ClassId} {S : StC} {x1 : Int32} {r : Int32} (hf : m_CTargets_isThere S x1 = some r) : KIC l D ad ca yk_12_isThere (.code yk_12_isThere bk_12_isThere 2 (some .boolean) :: tb) rm_CTargets_isThere [.ref (ad 13), .int x1] S (r, S) := by
  refine met_z (by decide) (Nat.le_of_ble_eq_true rfl) (fun p e s m below meth c A g hr hlk hK hA => ?_)
  replace g : CallFix p m c bk_12_isThere 2 s _ tb Rk_12 := g
  refine v_lv (lv' := [(0, .ref (ad 13)), (1, .int x1)]) rfl ?_
  unfold m_CTargets_isThere at hf
  refine v_iload_n g dk_12_isThere_0 1 rfl rfl (pc' := 1) rfl ?_
  refine v_if_lt (tgt := 16) (pc' := 4) g dk_12_isThere_1 (by decide) rfl (fun hc => ?_) (fun hc => ?_)
  · replace hf := ifT hc hf
    refine v_iconst (v := 0) g dk_12_isThere_16 (by decide) (pc' := 17) rfl ?_
    exact v_zret g hr hlk hK rfl (pinj hf) dk_12_isThere_17
  · replace hf := ifF hc hf
    refine v_iload_n g dk_12_isThere_4 1 rfl rfl (pc' := 5) rfl ?_
    refine v_aload_n g dk_12_isThere_5 0 rfl rfl (pc' := 6) rfl ?_
    refine gfC_Targets_18 g hK dk_12_isThere_6 (pc' := 9) rfl ?_
    refine v_icmp_ge (tgt := 16) (pc' := 12) g dk_12_isThere_9 (by decide) rfl (fun hc => ?_) (fun hc => ?_)
    · replace hf := ifT hc hf
      refine v_iconst (v := 0) g dk_12_isThere_16 (by decide) (pc' := 17) rfl ?_
      exact v_zret g hr hlk hK rfl (pinj hf) dk_12_isThere_17
    · replace hf := ifF hc hf
      refine v_iconst (v := 1) g dk_12_isThere_12 (by decide) (pc' := 13) rfl ?_
      refine v_goto (tgt := 17) g dk_12_isThere_13 (by decide) ?_
      exact v_zret g hr hlk hK rfl (pinj hf) dk_12_isThere_17
