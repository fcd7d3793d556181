abbrev rm_CSettings_add : Room := { frames := 0, cells := 0, slots := 0, locals := 0 }
def m_CSettings_add (S : StC) (x1 : Int32) (x2 : Int32) (x3 : Int32) : Option (Int32 × StC) :=
  if (gI S 0) < 16 then if inb (gI S 0) 16 = true then some (gI S 0, sI (tA (tA (tA S 0 (gI S 0) x1) 1 (gI S 0) x2) 2 (gI S 0) x3) 0 ((gI S 0) + (1 : Int32))) else none
    else some ((-1), S)
set_option maxHeartbeats 4000000 in
set_option maxRecDepth 100000 in
theorem c_CSettings_add {l : Launch} {D : va_G} {ad : Nat → Nat} {ca : Nat → ClassId} {S : StC} {x1 : Int32} {x2 : Int32} {x3 : Int32} {r : Int32 × StC} (hf : m_CSettings_add S x1 x2 x3 = some r) : KIC l D ad ca yk_11_add (.code yk_11_add bk_11_add 4 (some .int) :: tb) rm_CSettings_add [.ref (ad 1), .int x1, .int x2, .int x3] S r := by
  refine met_i (by decide) (Nat.le_of_ble_eq_true rfl) (fun p e s m below meth c A g hr hlk hK hA => ?_)
  replace g : CallFix p m c bk_11_add 4 s _ tb Rk_11 := g
  refine v_lv (lv' := [(0, .ref (ad 1)), (1, .int x1), (2, .int x2), (3, .int x3)]) rfl ?_
  unfold m_CSettings_add at hf
  refine v_aload_n g dk_11_add_0 0 rfl rfl (pc' := 1) rfl ?_
  refine gfC_Settings_21 g hK dk_11_add_1 (pc' := 4) rfl ?_
  refine v_bipush (v := 16) g dk_11_add_4 (by decide) (pc' := 6) rfl ?_
  refine v_icmp_lt (tgt := 11) (pc' := 9) g dk_11_add_6 (by decide) rfl (fun hc => ?_) (fun hc => ?_)
  · replace hf := ifT hc hf
    refine v_aload_n g dk_11_add_11 0 rfl rfl (pc' := 12) rfl ?_
    refine gfC_Settings_9 g hK dk_11_add_12 (pc' := 15) rfl ?_
    refine v_aload_n g dk_11_add_15 0 rfl rfl (pc' := 16) rfl ?_
    refine gfC_Settings_21 g hK dk_11_add_16 (pc' := 19) rfl ?_
    refine v_iload_n g dk_11_add_19 1 rfl rfl (pc' := 20) rfl ?_
    obtain ⟨hb1, hf⟩ := grd hf
    refine asC_2 g hK hb1 dk_11_add_20 (pc' := 21) rfl ?_
    refine v_aload_n g dk_11_add_21 0 rfl rfl (pc' := 22) rfl ?_
    refine gfC_Settings_15 g hK dk_11_add_22 (pc' := 25) rfl ?_
    refine v_aload_n g dk_11_add_25 0 rfl rfl (pc' := 26) rfl ?_
    refine gfC_Settings_21 g hK dk_11_add_26 (pc' := 29) rfl ?_
    refine v_iload_n g dk_11_add_29 2 rfl rfl (pc' := 30) rfl ?_
    refine asC_3 g hK hb1 dk_11_add_30 (pc' := 31) rfl ?_
    refine v_aload_n g dk_11_add_31 0 rfl rfl (pc' := 32) rfl ?_
    refine gfC_Settings_18 g hK dk_11_add_32 (pc' := 35) rfl ?_
    refine v_aload_n g dk_11_add_35 0 rfl rfl (pc' := 36) rfl ?_
    refine gfC_Settings_21 g hK dk_11_add_36 (pc' := 39) rfl ?_
    refine v_iload_n g dk_11_add_39 3 rfl rfl (pc' := 40) rfl ?_
    refine asC_4 g hK hb1 dk_11_add_40 (pc' := 41) rfl ?_
    refine v_aload_n g dk_11_add_41 0 rfl rfl (pc' := 42) rfl ?_
    refine v_dup g dk_11_add_42 rfl (pc' := 43) rfl ?_
    refine gfC_Settings_21 g hK dk_11_add_43 (pc' := 46) rfl ?_
    refine v_dup_x1 g dk_11_add_46 rfl rfl (pc' := 47) rfl ?_
    refine v_iconst (v := 1) g dk_11_add_47 (by decide) (pc' := 48) rfl ?_
    refine v_iadd g dk_11_add_48 (pc' := 49) rfl ?_
    refine pfC_Settings_21 g hK dk_11_add_49 (pc' := 52) rfl ?_
    exact v_iret g hr hlk hK  (Option.some.inj hf) dk_11_add_52
  · replace hf := ifF hc hf
    refine v_iconst (v := (-1)) g dk_11_add_9 (by decide) (pc' := 10) rfl ?_
    exact v_iret g hr hlk hK  (Option.some.inj hf) dk_11_add_10
abbrev rm_CCodes_withValue : Room := { frames := 0, cells := 0, slots := 0, locals := 0 }
def m_CCodes_withValue (S : StC) (x0 : Int64) (x2 : Int32) (x3 : Int32) : Option Int64 :=
  some ((x0 &&& (((7 : Int64) <<< ((x2 * (3 : Int32)).toInt64 &&& 63)) ^^^ ((-1) : Int64))) ||| (x3.toInt64 <<< ((x2 * (3 : Int32)).toInt64 &&& 63)))
set_option maxHeartbeats 4000000 in
set_option maxRecDepth 100000 in
theorem c_CCodes_withValue {l : Launch} {D : va_G} {ad : Nat → Nat} {ca : Nat → ClassId} {S : StC} {x0 : Int64} {x2 : Int32} {x3 : Int32} {r : Int64} (hf : m_CCodes_withValue S x0 x2 x3 = some r) : KLC l D ad ca yk_4_withValue (.code yk_4_withValue bk_4_withValue 5 (some .long) :: tb) rm_CCodes_withValue [.long x0, .int x2, .int x3] S (r, S) := by
  refine met_l (by decide) (Nat.le_of_ble_eq_true rfl) (fun p e s m below meth c A g hr hlk hK hA => ?_)
  replace g : CallFix p m c bk_4_withValue 5 s _ tb Rk_4 := g
  refine v_lv (lv' := [(0, .long x0), (2, .int x2), (3, .int x3)]) rfl ?_
  unfold m_CCodes_withValue at hf
  refine v_iload_n g dk_4_withValue_0 1 rfl rfl (pc' := 1) rfl ?_
  refine v_iconst (v := 3) g dk_4_withValue_1 (by decide) (pc' := 2) rfl ?_
  refine v_imul g dk_4_withValue_2 (pc' := 3) rfl ?_
  refine v_istore (lv' := [(4, .int (x2 * (3 : Int32))), (0, .long x0), (2, .int x2), (3, .int x3)]) g dk_4_withValue_3 (by decide) rfl (pc' := 5) rfl ?_
  refine v_lload_n g dk_4_withValue_5 1 rfl rfl (pc' := 6) rfl ?_
  refine v_ldc2 g dk_4_withValue_6 lcC_Codes_11 (pc' := 9) rfl ?_
  refine v_iload g dk_4_withValue_9 0 rfl (pc' := 11) rfl ?_
  refine v_lshl g dk_4_withValue_11 (pc' := 12) rfl ?_
  refine v_ldc2 g dk_4_withValue_12 lcC_Codes_13 (pc' := 15) rfl ?_
  refine v_lxor g dk_4_withValue_15 (pc' := 16) rfl ?_
  refine v_land g dk_4_withValue_16 (pc' := 17) rfl ?_
  refine v_iload_n g dk_4_withValue_17 3 rfl rfl (pc' := 18) rfl ?_
  refine v_i2l g dk_4_withValue_18 (pc' := 19) rfl ?_
  refine v_iload g dk_4_withValue_19 0 rfl (pc' := 21) rfl ?_
  refine v_lshl g dk_4_withValue_21 (pc' := 22) rfl ?_
  refine v_lor g dk_4_withValue_22 (pc' := 23) rfl ?_
  exact v_lret g hr hlk hK  (pinj hf) dk_4_withValue_23
abbrev rm_CConfigurations_giveAll : Room := { frames := 1, cells := 0, slots := 0, locals := 24 }
def L_CConfigurations_giveAll_2 (x1 : Int32) (x2 : Int32) : Nat → StC → Int32 → Option (StC)
  | 0, _, _ => none
  | n + 1, S, x3 =>
    if (gI S 2) ≤ x3 then some S
    else if inb x3 60 = true then (m_CCodes_withValue S (gB S 0 x3.toNatClampNeg) x1 x2).bind fun q2 =>
    L_CConfigurations_giveAll_2 x1 x2 n (tB S 0 x3 q2) (x3 + 1) else none
set_option maxHeartbeats 4000000 in
set_option maxRecDepth 100000 in
theorem w_CConfigurations_giveAll_2 {p : Program} {l : Launch} {e : Env} {s : State} {m : MethodId} {args : Array Value} {below : List Frame} {meth : Method} {c : Code} {A : Nat → Prop} {D : va_G} {ad : Nat → Nat} {ca : Nat → ClassId} {Rm : StC} {x1 : Int32} {x2 : Int32} (g : CallFix p m c bk_6_giveAll 4 s args tb Rk_6) (hr : meth.sig.returnType = none) (hlk : meth.locks = false) (hK : va_K D vwCl (tyC ca) s) (hA : ∀ q, s.heap.size ≤ q → A q) : ∀ (n : Nat) (S : StC) (x3 : Int32) (o : StC), L_CConfigurations_giveAll_2 x1 x2 n S x3 = some o → (Vj p l e rm_CConfigurations_giveAll s m args below meth c (MQ below (qV D vwCl (tyC ca) (wdC ad ca) A Rm) args s 0 0 A) D vwCl A 4 0 0 (wdC ad ca o) 33 [] []) → Vj p l e rm_CConfigurations_giveAll s m args below meth c (MQ below (qV D vwCl (tyC ca) (wdC ad ca) A Rm) args s 0 0 A) D vwCl A 4 0 0 (wdC ad ca S) 2 [(0, .ref (ad 7)), (1, .int x1), (2, .int x2), (3, .int x3)] [] := by
  intro n
  induction n with
  | zero => intro S x3 o hf; exact nomatch (show none = some o from hf)
  | succ n ih =>
    intro S x3 o hf hx
    rw [L_CConfigurations_giveAll_2] at hf
    refine v_iload_n g dk_6_giveAll_2 3 rfl rfl (pc' := 3) rfl ?_
    refine v_aload_n g dk_6_giveAll_3 0 rfl rfl (pc' := 4) rfl ?_
    refine gfC_Configurations_15 g hK dk_6_giveAll_4 (pc' := 7) rfl ?_
    refine v_icmp_ge (tgt := 33) (pc' := 10) g dk_6_giveAll_7 (by decide) rfl (fun hc => ?_) (fun hc => ?_)
    · replace hf := ifT hc hf
      refine v_sub [] rfl ?_
      have e9 := Option.some.inj hf
      subst e9
      exact hx
    · replace hf := ifF hc hf
      refine v_aload_n g dk_6_giveAll_10 0 rfl rfl (pc' := 11) rfl ?_
      refine gfC_Configurations_9 g hK dk_6_giveAll_11 (pc' := 14) rfl ?_
      refine v_iload_n g dk_6_giveAll_14 3 rfl rfl (pc' := 15) rfl ?_
      refine v_aload_n g dk_6_giveAll_15 0 rfl rfl (pc' := 16) rfl ?_
      refine gfC_Configurations_9 g hK dk_6_giveAll_16 (pc' := 19) rfl ?_
      refine v_iload_n g dk_6_giveAll_19 3 rfl rfl (pc' := 20) rfl ?_
      obtain ⟨hb1, hf⟩ := grd hf
      refine alC_8 g hK hb1 dk_6_giveAll_20 (pc' := 21) rfl ?_
      refine v_iload_n g dk_6_giveAll_21 1 rfl rfl (pc' := 22) rfl ?_
      refine v_iload_n g dk_6_giveAll_22 2 rfl rfl (pc' := 23) rfl ?_
      obtain ⟨q2, hq, hf⟩ := bnd hf
      refine v_callS_l (As := [.long (gB S 0 x3.toNatClampNeg), .int x1, .int x2]) (rest := [.int x3, .ref (ad 8)]) (r := q2) (S1 := S) g hK hA (c_CCodes_withValue hq) (kcC_Configurations_25 g.2.2.2.2 rfl rfl (Nat.le_of_ble_eq_true rfl) (Nat.le_of_ble_eq_true rfl)) rfl rfl (Nat.le_of_ble_eq_true rfl) dk_6_giveAll_23 (Nat.zero_le _) (Nat.zero_le _) (pc' := 26) rfl ?_
      refine asC_8 g hK hb1 dk_6_giveAll_26 (pc' := 27) rfl ?_
      refine v_iinc (j := 3) (v := x3 + 1) (lv' := [(3, .int (x3 + 1)), (0, .ref (ad 7)), (1, .int x1), (2, .int x2)]) g dk_6_giveAll_27 rfl rfl (by decide) rfl (pc' := 30) rfl ?_
      refine v_goto (tgt := 2) g dk_6_giveAll_30 (by decide) ?_
      refine v_sub [1, 2, 3, 0] rfl ?_
      exact ih (tB S 0 x3 q2) (x3 + 1) o hf hx
def m_CConfigurations_giveAll (S : StC) (x1 : Int32) (x2 : Int32) : Option StC :=
  (L_CConfigurations_giveAll_2 x1 x2 100 S 0).bind fun y4 =>
    some y4
set_option maxHeartbeats 4000000 in
set_option maxRecDepth 100000 in
theorem c_CConfigurations_giveAll {l : Launch} {D : va_G} {ad : Nat → Nat} {ca : Nat → ClassId} {S : StC} {x1 : Int32} {x2 : Int32} {r : StC} (hf : m_CConfigurations_giveAll S x1 x2 = some r) : KVC l D ad ca yk_6_giveAll (.code yk_6_giveAll bk_6_giveAll 4 none :: tb) rm_CConfigurations_giveAll [.ref (ad 7), .int x1, .int x2] S r := by
  refine met_v (by decide) (Nat.le_of_ble_eq_true rfl) (fun p e s m below meth c A g hr hlk hK hA => ?_)
  replace g : CallFix p m c bk_6_giveAll 4 s _ tb Rk_6 := g
  refine v_lv (lv' := [(0, .ref (ad 7)), (1, .int x1), (2, .int x2)]) rfl ?_
  unfold m_CConfigurations_giveAll at hf
  refine v_iconst (v := 0) g dk_6_giveAll_0 (by decide) (pc' := 1) rfl ?_
  refine v_istore_n (lv' := [(3, .int 0), (0, .ref (ad 7)), (1, .int x1), (2, .int x2)]) g dk_6_giveAll_1 rfl (by decide) rfl (pc' := 2) rfl ?_
  refine v_sub [1, 2, 3, 0] rfl ?_
  obtain ⟨y4, hL, hf⟩ := bnd hf
  refine w_CConfigurations_giveAll_2 g hr hlk hK hA 100 S 0 _ hL ?_
  exact v_vret g hr hlk hK  (Option.some.inj hf) dk_6_giveAll_33
abbrev rm_CX_setting : Room := { frames := 2, cells := 0, slots := 0, locals := 47 }
def m_CX_setting (S : StC) (x1 : Int32) (x2 : Int32) : Option (Int32 × StC) :=
  if x1 < 1 then some ((-1), S)
    else if 8 < x1 then some ((-1), S)
    else if x2 < 0 then some ((-1), S)
    else if x2 < x1 then (m_CSettings_add S x1 x2 (-1)).bind fun q1 =>
    if q1.1 = (-1) then some (q1.1, q1.2)
    else (m_CConfigurations_giveAll q1.2 q1.1 x2).bind fun q2 =>
    some (q1.1, q2)
    else some ((-1), S)
set_option maxHeartbeats 4000000 in
set_option maxRecDepth 100000 in
theorem c_CX_setting {l : Launch} {D : va_G} {ad : Nat → Nat} {ca : Nat → ClassId} {S : StC} {x1 : Int32} {x2 : Int32} {r : Int32 × StC} (hf : m_CX_setting S x1 x2 = some r) : KIC l D ad ca yk_0_setting (.code yk_0_setting bk_0_setting 4 (some .int) :: tb) rm_CX_setting [.ref (ad 0), .int x1, .int x2] S r := by
  refine met_i (by decide) (Nat.le_of_ble_eq_true rfl) (fun p e s m below meth c A g hr hlk hK hA => ?_)
  replace g : CallFix p m c bk_0_setting 4 s _ tb Rk_0 := g
  refine v_lv (lv' := [(0, .ref (ad 0)), (1, .int x1), (2, .int x2)]) rfl ?_
  unfold m_CX_setting at hf
  refine v_iload_n g dk_0_setting_0 1 rfl rfl (pc' := 1) rfl ?_
  refine v_iconst (v := 1) g dk_0_setting_1 (by decide) (pc' := 2) rfl ?_
  refine v_icmp_lt (tgt := 20) (pc' := 5) g dk_0_setting_2 (by decide) rfl (fun hc => ?_) (fun hc => ?_)
  · replace hf := ifT hc hf
    refine v_iconst (v := (-1)) g dk_0_setting_20 (by decide) (pc' := 21) rfl ?_
    exact v_iret g hr hlk hK  (Option.some.inj hf) dk_0_setting_21
  · replace hf := ifF hc hf
    refine v_iload_n g dk_0_setting_5 1 rfl rfl (pc' := 6) rfl ?_
    refine v_bipush (v := 8) g dk_0_setting_6 (by decide) (pc' := 8) rfl ?_
    refine v_icmp_gt (tgt := 20) (pc' := 11) g dk_0_setting_8 (by decide) rfl (fun hc => ?_) (fun hc => ?_)
    · replace hf := ifT hc hf
      refine v_iconst (v := (-1)) g dk_0_setting_20 (by decide) (pc' := 21) rfl ?_
      exact v_iret g hr hlk hK  (Option.some.inj hf) dk_0_setting_21
    · replace hf := ifF hc hf
      refine v_iload_n g dk_0_setting_11 2 rfl rfl (pc' := 12) rfl ?_
      refine v_if_lt (tgt := 20) (pc' := 15) g dk_0_setting_12 (by decide) rfl (fun hc => ?_) (fun hc => ?_)
      · replace hf := ifT hc hf
        refine v_iconst (v := (-1)) g dk_0_setting_20 (by decide) (pc' := 21) rfl ?_
        exact v_iret g hr hlk hK  (Option.some.inj hf) dk_0_setting_21
      · replace hf := ifF hc hf
        refine v_iload_n g dk_0_setting_15 2 rfl rfl (pc' := 16) rfl ?_
        refine v_iload_n g dk_0_setting_16 1 rfl rfl (pc' := 17) rfl ?_
        refine v_icmp_lt (tgt := 22) (pc' := 20) g dk_0_setting_17 (by decide) rfl (fun hc => ?_) (fun hc => ?_)
        · replace hf := ifT hc hf
          refine v_aload_n g dk_0_setting_22 0 rfl rfl (pc' := 23) rfl ?_
          refine gfC_X_12 g hK dk_0_setting_23 (pc' := 26) rfl ?_
          refine v_iload_n g dk_0_setting_26 1 rfl rfl (pc' := 27) rfl ?_
          refine v_iload_n g dk_0_setting_27 2 rfl rfl (pc' := 28) rfl ?_
          refine v_iconst (v := (-1)) g dk_0_setting_28 (by decide) (pc' := 29) rfl ?_
          obtain ⟨q1, hq, hf⟩ := bnd hf
          refine v_callV_i (As := [.int x1, .int x2, .int (-1)]) (rest := []) (r := q1.1) (S1 := q1.2) g hK hA (c_CSettings_add hq) (kcC_X_75 g.2.2.2.2 rfl rfl (Nat.le_of_ble_eq_true rfl) (Nat.le_of_ble_eq_true rfl)) (ci := 8) (q0 := 1) rfl rfl rfl rfl rfl (Nat.le_of_ble_eq_true rfl) dk_0_setting_29 (Nat.zero_le _) (Nat.zero_le _) (pc' := 32) rfl ?_
          refine v_istore_n (lv' := [(3, .int q1.1), (0, .ref (ad 0)), (1, .int x1), (2, .int x2)]) g dk_0_setting_32 rfl (by decide) rfl (pc' := 33) rfl ?_
          refine v_iload_n g dk_0_setting_33 0 rfl rfl (pc' := 34) rfl ?_
          refine v_iconst (v := (-1)) g dk_0_setting_34 (by decide) (pc' := 35) rfl ?_
          refine v_icmp_eq (tgt := 47) (pc' := 38) g dk_0_setting_35 (by decide) rfl (fun hc => ?_) (fun hc => ?_)
          · replace hf := ifT hc hf
            refine v_iload_n g dk_0_setting_47 0 rfl rfl (pc' := 48) rfl ?_
            exact v_iret g hr hlk hK  (Option.some.inj hf) dk_0_setting_48
          · replace hf := ifF hc hf
            refine v_aload_n g dk_0_setting_38 1 rfl rfl (pc' := 39) rfl ?_
            refine gfC_X_26 g hK dk_0_setting_39 (pc' := 42) rfl ?_
            refine v_iload_n g dk_0_setting_42 0 rfl rfl (pc' := 43) rfl ?_
            refine v_iload_n g dk_0_setting_43 3 rfl rfl (pc' := 44) rfl ?_
            obtain ⟨q2, hq, hf⟩ := bnd hf
            refine v_callV_v (As := [.int q1.1, .int x2]) (rest := []) (S1 := q2) g hK hA (c_CConfigurations_giveAll hq) (kcC_X_79 g.2.2.2.2 rfl rfl (Nat.le_of_ble_eq_true rfl) (Nat.le_of_ble_eq_true rfl)) (ci := 3) (q0 := 7) rfl rfl rfl rfl rfl (Nat.le_of_ble_eq_true rfl) dk_0_setting_44 (Nat.zero_le _) (Nat.zero_le _) (pc' := 47) rfl ?_
            refine v_iload_n g dk_0_setting_47 0 rfl rfl (pc' := 48) rfl ?_
            exact v_iret g hr hlk hK  (Option.some.inj hf) dk_0_setting_48
        · replace hf := ifF hc hf
          refine v_iconst (v := (-1)) g dk_0_setting_20 (by decide) (pc' := 21) rfl ?_
          exact v_iret g hr hlk hK  (Option.some.inj hf) dk_0_setting_21
abbrev rm_CX_alias : Room := { frames := 1, cells := 0, slots := 0, locals := 23 }
def m_CX_alias (S : StC) (x1 : Int32) : Option (Int32 × StC) :=
  if x1 < 0 then some ((-1), S)
    else if x1 < 16 then (m_CSettings_add S 0 0 x1).bind fun q1 =>
    some (q1.1, q1.2)
    else some ((-1), S)
set_option maxHeartbeats 4000000 in
set_option maxRecDepth 100000 in
theorem c_CX_alias {l : Launch} {D : va_G} {ad : Nat → Nat} {ca : Nat → ClassId} {S : StC} {x1 : Int32} {r : Int32 × StC} (hf : m_CX_alias S x1 = some r) : KIC l D ad ca yk_0_alias (.code yk_0_alias bk_0_alias 2 (some .int) :: tb) rm_CX_alias [.ref (ad 0), .int x1] S r := by
  refine met_i (by decide) (Nat.le_of_ble_eq_true rfl) (fun p e s m below meth c A g hr hlk hK hA => ?_)
  replace g : CallFix p m c bk_0_alias 2 s _ tb Rk_0 := g
  refine v_lv (lv' := [(0, .ref (ad 0)), (1, .int x1)]) rfl ?_
  unfold m_CX_alias at hf
  refine v_iload_n g dk_0_alias_0 1 rfl rfl (pc' := 1) rfl ?_
  refine v_if_lt (tgt := 10) (pc' := 4) g dk_0_alias_1 (by decide) rfl (fun hc => ?_) (fun hc => ?_)
  · replace hf := ifT hc hf
    refine v_iconst (v := (-1)) g dk_0_alias_10 (by decide) (pc' := 11) rfl ?_
    exact v_iret g hr hlk hK  (Option.some.inj hf) dk_0_alias_11
  · replace hf := ifF hc hf
    refine v_iload_n g dk_0_alias_4 1 rfl rfl (pc' := 5) rfl ?_
    refine v_bipush (v := 16) g dk_0_alias_5 (by decide) (pc' := 7) rfl ?_
    refine v_icmp_lt (tgt := 12) (pc' := 10) g dk_0_alias_7 (by decide) rfl (fun hc => ?_) (fun hc => ?_)
    · replace hf := ifT hc hf
      refine v_aload_n g dk_0_alias_12 0 rfl rfl (pc' := 13) rfl ?_
      refine gfC_X_12 g hK dk_0_alias_13 (pc' := 16) rfl ?_
      refine v_iconst (v := 0) g dk_0_alias_16 (by decide) (pc' := 17) rfl ?_
      refine v_iconst (v := 0) g dk_0_alias_17 (by decide) (pc' := 18) rfl ?_
      refine v_iload_n g dk_0_alias_18 1 rfl rfl (pc' := 19) rfl ?_
      obtain ⟨q1, hq, hf⟩ := bnd hf
      refine v_callV_i (As := [.int 0, .int 0, .int x1]) (rest := []) (r := q1.1) (S1 := q1.2) g hK hA (c_CSettings_add hq) (kcC_X_75 g.2.2.2.2 rfl rfl (Nat.le_of_ble_eq_true rfl) (Nat.le_of_ble_eq_true rfl)) (ci := 8) (q0 := 1) rfl rfl rfl rfl rfl (Nat.le_of_ble_eq_true rfl) dk_0_alias_19 (Nat.zero_le _) (Nat.zero_le _) (pc' := 22) rfl ?_
      exact v_iret g hr hlk hK  (Option.some.inj hf) dk_0_alias_22
    · replace hf := ifF hc hf
      refine v_iconst (v := (-1)) g dk_0_alias_10 (by decide) (pc' := 11) rfl ?_
      exact v_iret g hr hlk hK  (Option.some.inj hf) dk_0_alias_11
abbrev rm_CSettings_isThere : Room := { frames := 0, cells := 0, slots := 0, locals := 0 }
def m_CSettings_isThere (S : StC) (x1 : Int32) : Option Int32 :=
  if x1 < 0 then some 0
    else if (gI S 0) ≤ x1 then some 0
    else some 1
set_option maxHeartbeats 4000000 in
set_option maxRecDepth 100000 in
theorem c_CSettings_isThere {l : Launch} {D : va_G} {ad : Nat → Nat} {ca : Nat → ClassId} {S : StC} {x1 : Int32} {r : Int32} (hf : m_CSettings_isThere S x1 = some r) : KIC l D ad ca yk_11_isThere (.code yk_11_isThere bk_11_isThere 2 (some .boolean) :: tb) rm_CSettings_isThere [.ref (ad 1), .int x1] S (r, S) := by
  refine met_z (by decide) (Nat.le_of_ble_eq_true rfl) (fun p e s m below meth c A g hr hlk hK hA => ?_)
  replace g : CallFix p m c bk_11_isThere 2 s _ tb Rk_11 := g
  refine v_lv (lv' := [(0, .ref (ad 1)), (1, .int x1)]) rfl ?_
  unfold m_CSettings_isThere at hf
  refine v_iload_n g dk_11_isThere_0 1 rfl rfl (pc' := 1) rfl ?_
  refine v_if_lt (tgt := 16) (pc' := 4) g dk_11_isThere_1 (by decide) rfl (fun hc => ?_) (fun hc => ?_)
  · replace hf := ifT hc hf
    refine v_iconst (v := 0) g dk_11_isThere_16 (by decide) (pc' := 17) rfl ?_
    exact v_zret g hr hlk hK rfl (pinj hf) dk_11_isThere_17
  · replace hf := ifF hc hf
    refine v_iload_n g dk_11_isThere_4 1 rfl rfl (pc' := 5) rfl ?_
    refine v_aload_n g dk_11_isThere_5 0 rfl rfl (pc' := 6) rfl ?_
    refine gfC_Settings_21 g hK dk_11_isThere_6 (pc' := 9) rfl ?_
    refine v_icmp_ge (tgt := 16) (pc' := 12) g dk_11_isThere_9 (by decide) rfl (fun hc => ?_) (fun hc => ?_)
    · replace hf := ifT hc hf
      refine v_iconst (v := 0) g dk_11_isThere_16 (by decide) (pc' := 17) rfl ?_
      exact v_zret g hr hlk hK rfl (pinj hf) dk_11_isThere_17
    · replace hf := ifF hc hf
      refine v_iconst (v := 1) g dk_11_isThere_12 (by decide) (pc' := 13) rfl ?_
      refine v_goto (tgt := 17) g dk_11_isThere_13 (by decide) ?_
      exact v_zret g hr hlk hK rfl (pinj hf) dk_11_isThere_17
abbrev rm_CSettings_baseOf : Room := { frames := 1, cells := 0, slots := 0, locals := 21 }
def L_CSettings_baseOf_4 (S : StC) : Nat → Int32 → Int32 → Option (Unit ⊕ Int32)
  | 0, _, _ => none
  | n + 1, x2, x3 =>
    if 16 ≤ x3 then some (.inl ())
    else (m_CSettings_isThere S x2).bind fun q1 =>
    if q1 = 0 then some (.inr (-1))
    else if inb x2 16 = true then if (gA S 2 x2.toNatClampNeg) = (-1) then some (.inr x2)
    else L_CSettings_baseOf_4 S n (gA S 2 x2.toNatClampNeg) (x3 + 1) else none
set_option maxHeartbeats 4000000 in
set_option maxRecDepth 100000 in
theorem w_CSettings_baseOf_4 {p : Program} {l : Launch} {e : Env} {s : State} {m : MethodId} {args : Array Value} {below : List Frame} {meth : Method} {c : Code} {A : Nat → Prop} {D : va_G} {ad : Nat → Nat} {ca : Nat → ClassId} {Rm : Int32 × StC} {S : StC} (g : CallFix p m c bk_11_baseOf 4 s args tb Rk_11) (hr : meth.sig.returnType = some .int) (hlk : meth.locks = false) (hK : va_K D vwCl (tyC ca) s) (hA : ∀ q, s.heap.size ≤ q → A q) : ∀ (n : Nat) (x2 : Int32) (x3 : Int32) (o : Unit ⊕ Int32), L_CSettings_baseOf_4 S n x2 x3 = some o → (∀ y, o = .inl y → Vj p l e rm_CSettings_baseOf s m args below meth c (MQ below (qI D vwCl (tyC ca) (wdC ad ca) A Rm) args s 0 0 A) D vwCl A 4 0 0 (wdC ad ca S) 45 [] []) → (∀ r, o = .inr r → (r, S) = Rm) → Vj p l e rm_CSettings_baseOf s m args below meth c (MQ below (qI D vwCl (tyC ca) (wdC ad ca) A Rm) args s 0 0 A) D vwCl A 4 0 0 (wdC ad ca S) 4 [(0, .ref (ad 1)), (2, .int x2), (3, .int x3)] [] := by
  intro n
  induction n with
  | zero => intro x2 x3 o hf; exact nomatch (show none = some o from hf)
  | succ n ih =>
    intro x2 x3 o hf hx hret
    rw [L_CSettings_baseOf_4] at hf
    refine v_iload_n g dk_11_baseOf_4 2 rfl rfl (pc' := 5) rfl ?_
    refine v_bipush (v := 16) g dk_11_baseOf_5 (by decide) (pc' := 7) rfl ?_
    refine v_icmp_ge (tgt := 45) (pc' := 10) g dk_11_baseOf_7 (by decide) rfl (fun hc => ?_) (fun hc => ?_)
    · replace hf := ifT hc hf
      refine v_sub [] rfl ?_
      exact hx _ (Option.some.inj hf).symm
    · replace hf := ifF hc hf
      refine v_aload_n g dk_11_baseOf_10 0 rfl rfl (pc' := 11) rfl ?_
      refine v_iload_n g dk_11_baseOf_11 1 rfl rfl (pc' := 12) rfl ?_
      obtain ⟨q1, hq, hf⟩ := bnd hf
      refine v_callV_i (As := [.int x2]) (rest := []) (r := q1) (S1 := S) g hK hA (c_CSettings_isThere hq) (kcC_Settings_25 g.2.2.2.2 rfl rfl (Nat.le_of_ble_eq_true rfl) (Nat.le_of_ble_eq_true rfl)) (ci := 8) (q0 := 1) rfl rfl rfl rfl rfl (Nat.le_of_ble_eq_true rfl) dk_11_baseOf_12 (Nat.zero_le _) (Nat.zero_le _) (pc' := 15) rfl ?_
      refine v_if_ne (tgt := 20) (pc' := 18) g dk_11_baseOf_15 (by decide) rfl (fun hc => ?_) (fun hc => ?_)
      · replace hf := ifF hc hf
        refine v_aload_n g dk_11_baseOf_20 0 rfl rfl (pc' := 21) rfl ?_
        refine gfC_Settings_18 g hK dk_11_baseOf_21 (pc' := 24) rfl ?_
        refine v_iload_n g dk_11_baseOf_24 1 rfl rfl (pc' := 25) rfl ?_
        obtain ⟨hb2, hf⟩ := grd hf
        refine alC_4 g hK hb2 dk_11_baseOf_25 (pc' := 26) rfl ?_
        refine v_iconst (v := (-1)) g dk_11_baseOf_26 (by decide) (pc' := 27) rfl ?_
        refine v_icmp_ne (tgt := 32) (pc' := 30) g dk_11_baseOf_27 (by decide) rfl (fun hc => ?_) (fun hc => ?_)
        · replace hf := ifF hc hf
          refine v_aload_n g dk_11_baseOf_32 0 rfl rfl (pc' := 33) rfl ?_
          refine gfC_Settings_18 g hK dk_11_baseOf_33 (pc' := 36) rfl ?_
          refine v_iload_n g dk_11_baseOf_36 1 rfl rfl (pc' := 37) rfl ?_
          refine alC_4 g hK hb2 dk_11_baseOf_37 (pc' := 38) rfl ?_
          refine v_istore_n (lv' := [(2, .int (gA S 2 x2.toNatClampNeg)), (0, .ref (ad 1)), (3, .int x3)]) g dk_11_baseOf_38 rfl (by decide) rfl (pc' := 39) rfl ?_
          refine v_iinc (j := 2) (v := x3 + 1) (lv' := [(3, .int (x3 + 1)), (2, .int (gA S 2 x2.toNatClampNeg)), (0, .ref (ad 1))]) g dk_11_baseOf_39 rfl rfl (by decide) rfl (pc' := 42) rfl ?_
          refine v_goto (tgt := 4) g dk_11_baseOf_42 (by decide) ?_
          refine v_sub [2, 1, 0] rfl ?_
          exact ih (gA S 2 x2.toNatClampNeg) (x3 + 1) o hf hx hret
        · replace hf := ifT hc hf
          refine v_iload_n g dk_11_baseOf_30 1 rfl rfl (pc' := 31) rfl ?_
          exact v_iret g hr hlk hK  (hret _ (Option.some.inj hf).symm) dk_11_baseOf_31
      · replace hf := ifT hc hf
        refine v_iconst (v := (-1)) g dk_11_baseOf_18 (by decide) (pc' := 19) rfl ?_
        exact v_iret g hr hlk hK  (hret _ (Option.some.inj hf).symm) dk_11_baseOf_19
def m_CSettings_baseOf (S : StC) (x1 : Int32) : Option Int32 :=
  (L_CSettings_baseOf_4 S 100 x1 0).bind fun o3 => exK o3 fun y4 =>
    some (-1)
set_option maxHeartbeats 4000000 in
set_option maxRecDepth 100000 in
theorem c_CSettings_baseOf {l : Launch} {D : va_G} {ad : Nat → Nat} {ca : Nat → ClassId} {S : StC} {x1 : Int32} {r : Int32} (hf : m_CSettings_baseOf S x1 = some r) : KIC l D ad ca yk_11_baseOf (.code yk_11_baseOf bk_11_baseOf 4 (some .int) :: tb) rm_CSettings_baseOf [.ref (ad 1), .int x1] S (r, S) := by
  refine met_i (by decide) (Nat.le_of_ble_eq_true rfl) (fun p e s m below meth c A g hr hlk hK hA => ?_)
  replace g : CallFix p m c bk_11_baseOf 4 s _ tb Rk_11 := g
  refine v_lv (lv' := [(0, .ref (ad 1)), (1, .int x1)]) rfl ?_
  unfold m_CSettings_baseOf at hf
  refine v_iload_n g dk_11_baseOf_0 1 rfl rfl (pc' := 1) rfl ?_
  refine v_istore_n (lv' := [(2, .int x1), (0, .ref (ad 1)), (1, .int x1)]) g dk_11_baseOf_1 rfl (by decide) rfl (pc' := 2) rfl ?_
  refine v_iconst (v := 0) g dk_11_baseOf_2 (by decide) (pc' := 3) rfl ?_
  refine v_istore_n (lv' := [(3, .int 0), (2, .int x1), (0, .ref (ad 1)), (1, .int x1)]) g dk_11_baseOf_3 rfl (by decide) rfl (pc' := 4) rfl ?_
  refine v_sub [2, 1, 0] rfl ?_
  obtain ⟨o3, hL, hf⟩ := bnd hf
  refine w_CSettings_baseOf_4 g hr hlk hK hA 100 x1 0 _ hL (fun y4 hy => ?_) (fun r9 hy => ?_)
  · subst hy
    replace hf := exKl hf
    refine v_iconst (v := (-1)) g dk_11_baseOf_45 (by decide) (pc' := 46) rfl ?_
    exact v_iret g hr hlk hK  (pinj hf) dk_11_baseOf_46
  · subst hy
    exact pinj hf
abbrev rm_CX_base : Room := { frames := 2, cells := 0, slots := 0, locals := 44 }
def m_CX_base (S : StC) (x1 : Int32) : Option Int32 :=
  (m_CSettings_baseOf S x1).bind fun q1 =>
    some q1
set_option maxHeartbeats 4000000 in
set_option maxRecDepth 100000 in
theorem c_CX_base {l : Launch} {D : va_G} {ad : Nat → Nat} {ca : Nat → ClassId} {S : StC} {x1 : Int32} {r : Int32} (hf : m_CX_base S x1 = some r) : KIC l D ad ca yk_0_base (.code yk_0_base bk_0_base 2 (some .int) :: tb) rm_CX_base [.ref (ad 0), .int x1] S (r, S) := by
  refine met_i (by decide) (Nat.le_of_ble_eq_true rfl) (fun p e s m below meth c A g hr hlk hK hA => ?_)
  replace g : CallFix p m c bk_0_base 2 s _ tb Rk_0 := g
  refine v_lv (lv' := [(0, .ref (ad 0)), (1, .int x1)]) rfl ?_
  unfold m_CX_base at hf
  refine v_aload_n g dk_0_base_0 0 rfl rfl (pc' := 1) rfl ?_
  refine gfC_X_12 g hK dk_0_base_1 (pc' := 4) rfl ?_
  refine v_iload_n g dk_0_base_4 1 rfl rfl (pc' := 5) rfl ?_
  obtain ⟨q1, hq, hf⟩ := bnd hf
  refine v_callV_i (As := [.int x1]) (rest := []) (r := q1) (S1 := S) g hK hA (c_CSettings_baseOf hq) (kcC_X_83 g.2.2.2.2 rfl rfl (Nat.le_of_ble_eq_true rfl) (Nat.le_of_ble_eq_true rfl)) (ci := 8) (q0 := 1) rfl rfl rfl rfl rfl (Nat.le_of_ble_eq_true rfl) dk_0_base_5 (Nat.zero_le _) (Nat.zero_le _) (pc' := 8) rfl ?_
  exact v_iret g hr hlk hK  (pinj hf) dk_0_base_8
abbrev rm_CPlatforms_put : Room := { frames := 0, cells := 0, slots := 0, locals := 0 }
def m_CPlatforms_put (S : StC) (x1 : Int32) (x2 : Int32) (x3 : Int32) : Option StC :=
  if inb ((x1 * (8 : Int32)) + x2) 64 = true then some (tA S 3 ((x1 * (8 : Int32)) + x2) x3) else none
set_option maxHeartbeats 4000000 in
set_option maxRecDepth 100000 in
theorem c_CPlatforms_put {l : Launch} {D : va_G} {ad : Nat → Nat} {ca : Nat → ClassId} {S : StC} {x1 : Int32} {x2 : Int32} {x3 : Int32} {r : StC} (hf : m_CPlatforms_put S x1 x2 x3 = some r) : KVC l D ad ca yk_9_put (.code yk_9_put bk_9_put 4 none :: tb) rm_CPlatforms_put [.ref (ad 5), .int x1, .int x2, .int x3] S r := by
  refine met_v (by decide) (Nat.le_of_ble_eq_true rfl) (fun p e s m below meth c A g hr hlk hK hA => ?_)
  replace g : CallFix p m c bk_9_put 4 s _ tb Rk_9 := g
  refine v_lv (lv' := [(0, .ref (ad 5)), (1, .int x1), (2, .int x2), (3, .int x3)]) rfl ?_
  unfold m_CPlatforms_put at hf
  refine v_aload_n g dk_9_put_0 0 rfl rfl (pc' := 1) rfl ?_
  refine gfC_Platforms_9 g hK dk_9_put_1 (pc' := 4) rfl ?_
  refine v_iload_n g dk_9_put_4 1 rfl rfl (pc' := 5) rfl ?_
  refine v_bipush (v := 8) g dk_9_put_5 (by decide) (pc' := 7) rfl ?_
  refine v_imul g dk_9_put_7 (pc' := 8) rfl ?_
  refine v_iload_n g dk_9_put_8 2 rfl rfl (pc' := 9) rfl ?_
  refine v_iadd g dk_9_put_9 (pc' := 10) rfl ?_
  refine v_iload_n g dk_9_put_10 3 rfl rfl (pc' := 11) rfl ?_
  obtain ⟨hb1, hf⟩ := grd hf
  refine asC_6 g hK hb1 dk_9_put_11 (pc' := 12) rfl ?_
  exact v_vret g hr hlk hK  (Option.some.inj hf) dk_9_put_12
abbrev rm_CPlatforms_add : Room := { frames := 1, cells := 0, slots := 0, locals := 23 }
def L_CPlatforms_add_13 : Nat → StC → Int32 → Option (StC)
  | 0, _, _ => none
  | n + 1, S, x1 =>
    if 8 ≤ x1 then some S
    else (m_CPlatforms_put S (gI S 1) x1 (-1)).bind fun q1 =>
    L_CPlatforms_add_13 n q1 (x1 + 1)
set_option maxHeartbeats 4000000 in
set_option maxRecDepth 100000 in
theorem w_CPlatforms_add_13 {p : Program} {l : Launch} {e : Env} {s : State} {m : MethodId} {args : Array Value} {below : List Frame} {meth : Method} {c : Code} {A : Nat → Prop} {D : va_G} {ad : Nat → Nat} {ca : Nat → ClassId} {Rm : Int32 × StC} (g : CallFix p m c bk_9_add 2 s args tb Rk_9) (hr : meth.sig.returnType = some .int) (hlk : meth.locks = false) (hK : va_K D vwCl (tyC ca) s) (hA : ∀ q, s.heap.size ≤ q → A q) : ∀ (n : Nat) (S : StC) (x1 : Int32) (o : StC), L_CPlatforms_add_13 n S x1 = some o → (Vj p l e rm_CPlatforms_add s m args below meth c (MQ below (qI D vwCl (tyC ca) (wdC ad ca) A Rm) args s 0 0 A) D vwCl A 2 0 0 (wdC ad ca o) 35 [(0, .ref (ad 5))] []) → Vj p l e rm_CPlatforms_add s m args below meth c (MQ below (qI D vwCl (tyC ca) (wdC ad ca) A Rm) args s 0 0 A) D vwCl A 2 0 0 (wdC ad ca S) 13 [(0, .ref (ad 5)), (1, .int x1)] [] := by
  intro n
  induction n with
  | zero => intro S x1 o hf; exact nomatch (show none = some o from hf)
  | succ n ih =>
    intro S x1 o hf hx
    rw [L_CPlatforms_add_13] at hf
    refine v_iload_n g dk_9_add_13 1 rfl rfl (pc' := 14) rfl ?_
    refine v_bipush (v := 8) g dk_9_add_14 (by decide) (pc' := 16) rfl ?_
    refine v_icmp_ge (tgt := 35) (pc' := 19) g dk_9_add_16 (by decide) rfl (fun hc => ?_) (fun hc => ?_)
    · replace hf := ifT hc hf
      refine v_sub [0] rfl ?_
      have e9 := Option.some.inj hf
      subst e9
      exact hx
    · replace hf := ifF hc hf
      refine v_aload_n g dk_9_add_19 0 rfl rfl (pc' := 20) rfl ?_
      refine v_aload_n g dk_9_add_20 0 rfl rfl (pc' := 21) rfl ?_
      refine gfC_Platforms_15 g hK dk_9_add_21 (pc' := 24) rfl ?_
      refine v_iload_n g dk_9_add_24 1 rfl rfl (pc' := 25) rfl ?_
      refine v_iconst (v := (-1)) g dk_9_add_25 (by decide) (pc' := 26) rfl ?_
      obtain ⟨q1, hq, hf⟩ := bnd hf
      refine v_callV_v (As := [.int (gI S 1), .int x1, .int (-1)]) (rest := []) (S1 := q1) g hK hA (c_CPlatforms_put hq) (kcC_Platforms_19 g.2.2.2.2 rfl rfl (Nat.le_of_ble_eq_true rfl) (Nat.le_of_ble_eq_true rfl)) (ci := 6) (q0 := 5) rfl rfl rfl rfl rfl (Nat.le_of_ble_eq_true rfl) dk_9_add_26 (Nat.zero_le _) (Nat.zero_le _) (pc' := 29) rfl ?_
      refine v_iinc (j := 1) (v := x1 + 1) (lv' := [(1, .int (x1 + 1)), (0, .ref (ad 5))]) g dk_9_add_29 rfl rfl (by decide) rfl (pc' := 32) rfl ?_
      refine v_goto (tgt := 13) g dk_9_add_32 (by decide) ?_
      refine v_sub [1, 0] rfl ?_
      exact ih q1 (x1 + 1) o hf hx
def m_CPlatforms_add (S : StC) : Option (Int32 × StC) :=
  if (gI S 1) < 8 then (L_CPlatforms_add_13 100 S 0).bind fun y3 =>
    some (gI y3 1, sI y3 1 ((gI y3 1) + (1 : Int32)))
    else some ((-1), S)
set_option maxHeartbeats 4000000 in
set_option maxRecDepth 100000 in
theorem c_CPlatforms_add {l : Launch} {D : va_G} {ad : Nat → Nat} {ca : Nat → ClassId} {S : StC} {r : Int32 × StC} (hf : m_CPlatforms_add S = some r) : KIC l D ad ca yk_9_add (.code yk_9_add bk_9_add 2 (some .int) :: tb) rm_CPlatforms_add [.ref (ad 5)] S r := by
  refine met_i (by decide) (Nat.le_of_ble_eq_true rfl) (fun p e s m below meth c A g hr hlk hK hA => ?_)
  replace g : CallFix p m c bk_9_add 2 s _ tb Rk_9 := g
  refine v_lv (lv' := [(0, .ref (ad 5))]) rfl ?_
  unfold m_CPlatforms_add at hf
  refine v_aload_n g dk_9_add_0 0 rfl rfl (pc' := 1) rfl ?_
  refine gfC_Platforms_15 g hK dk_9_add_1 (pc' := 4) rfl ?_
  refine v_bipush (v := 8) g dk_9_add_4 (by decide) (pc' := 6) rfl ?_
  refine v_icmp_lt (tgt := 11) (pc' := 9) g dk_9_add_6 (by decide) rfl (fun hc => ?_) (fun hc => ?_)
  · replace hf := ifT hc hf
    refine v_iconst (v := 0) g dk_9_add_11 (by decide) (pc' := 12) rfl ?_
    refine v_istore_n (lv' := [(1, .int 0), (0, .ref (ad 5))]) g dk_9_add_12 rfl (by decide) rfl (pc' := 13) rfl ?_
    refine v_sub [1, 0] rfl ?_
    obtain ⟨y3, hL, hf⟩ := bnd hf
    refine w_CPlatforms_add_13 g hr hlk hK hA 100 S 0 _ hL ?_
    refine v_aload_n g dk_9_add_35 0 rfl rfl (pc' := 36) rfl ?_
    refine v_dup g dk_9_add_36 rfl (pc' := 37) rfl ?_
    refine gfC_Platforms_15 g hK dk_9_add_37 (pc' := 40) rfl ?_
    refine v_dup_x1 g dk_9_add_40 rfl rfl (pc' := 41) rfl ?_
    refine v_iconst (v := 1) g dk_9_add_41 (by decide) (pc' := 42) rfl ?_
    refine v_iadd g dk_9_add_42 (pc' := 43) rfl ?_
    refine pfC_Platforms_15 g hK dk_9_add_43 (pc' := 46) rfl ?_
    exact v_iret g hr hlk hK  (Option.some.inj hf) dk_9_add_46
  · replace hf := ifF hc hf
    refine v_iconst (v := (-1)) g dk_9_add_9 (by decide) (pc' := 10) rfl ?_
    exact v_iret g hr hlk hK  (Option.some.inj hf) dk_9_add_10
abbrev rm_CX_platform : Room := { frames := 2, cells := 0, slots := 0, locals := 44 }
def m_CX_platform (S : StC) : Option (Int32 × StC) :=
  (m_CPlatforms_add S).bind fun q1 =>
    some (q1.1, q1.2)
set_option maxHeartbeats 4000000 in
set_option maxRecDepth 100000 in
theorem c_CX_platform {l : Launch} {D : va_G} {ad : Nat → Nat} {ca : Nat → ClassId} {S : StC} {r : Int32 × StC} (hf : m_CX_platform S = some r) : KIC l D ad ca yk_0_platform (.code yk_0_platform bk_0_platform 1 (some .int) :: tb) rm_CX_platform [.ref (ad 0)] S r := by
  refine met_i (by decide) (Nat.le_of_ble_eq_true rfl) (fun p e s m below meth c A g hr hlk hK hA => ?_)
  replace g : CallFix p m c bk_0_platform 1 s _ tb Rk_0 := g
  refine v_lv (lv' := [(0, .ref (ad 0))]) rfl ?_
  unfold m_CX_platform at hf
  refine v_aload_n g dk_0_platform_0 0 rfl rfl (pc' := 1) rfl ?_
  refine gfC_X_19 g hK dk_0_platform_1 (pc' := 4) rfl ?_
  obtain ⟨q1, hq, hf⟩ := bnd hf
  refine v_callV_i (As := []) (rest := []) (r := q1.1) (S1 := q1.2) g hK hA (c_CPlatforms_add hq) (kcC_X_87 g.2.2.2.2 rfl rfl (Nat.le_of_ble_eq_true rfl) (Nat.le_of_ble_eq_true rfl)) (ci := 6) (q0 := 5) rfl rfl rfl rfl rfl (Nat.le_of_ble_eq_true rfl) dk_0_platform_4 (Nat.zero_le _) (Nat.zero_le _) (pc' := 7) rfl ?_
  exact v_iret g hr hlk hK  (Option.some.inj hf) dk_0_platform_7
abbrev rm_CPlatforms_isThere : Room := { frames := 0, cells := 0, slots := 0, locals := 0 }
def m_CPlatforms_isThere (S : StC) (x1 : Int32) : Option Int32 :=
  if x1 < 0 then some 0
    else if (gI S 1) ≤ x1 then some 0
    else some 1
set_option maxHeartbeats 4000000 in
set_option maxRecDepth 100000 in
theorem c_CPlatforms_isThere {l : Launch} {D : va_G} {ad : Nat → Nat} {ca : Nat → ClassId} {S : StC} {x1 : Int32} {r : Int32} (hf : m_CPlatforms_isThere S x1 = some r) : KIC l D ad ca yk_9_isThere (.code yk_9_isThere bk_9_isThere 2 (some .boolean) :: tb) rm_CPlatforms_isThere [.ref (ad 5), .int x1] S (r, S) := by
  refine met_z (by decide) (Nat.le_of_ble_eq_true rfl) (fun p e s m below meth c A g hr hlk hK hA => ?_)
  replace g : CallFix p m c bk_9_isThere 2 s _ tb Rk_9 := g
  refine v_lv (lv' := [(0, .ref (ad 5)), (1, .int x1)]) rfl ?_
  unfold m_CPlatforms_isThere at hf
  refine v_iload_n g dk_9_isThere_0 1 rfl rfl (pc' := 1) rfl ?_
  refine v_if_lt (tgt := 16) (pc' := 4) g dk_9_isThere_1 (by decide) rfl (fun hc => ?_) (fun hc => ?_)
  · replace hf := ifT hc hf
    refine v_iconst (v := 0) g dk_9_isThere_16 (by decide) (pc' := 17) rfl ?_
    exact v_zret g hr hlk hK rfl (pinj hf) dk_9_isThere_17
  · replace hf := ifF hc hf
    refine v_iload_n g dk_9_isThere_4 1 rfl rfl (pc' := 5) rfl ?_
    refine v_aload_n g dk_9_isThere_5 0 rfl rfl (pc' := 6) rfl ?_
    refine gfC_Platforms_15 g hK dk_9_isThere_6 (pc' := 9) rfl ?_
    refine v_icmp_ge (tgt := 16) (pc' := 12) g dk_9_isThere_9 (by decide) rfl (fun hc => ?_) (fun hc => ?_)
    · replace hf := ifT hc hf
      refine v_iconst (v := 0) g dk_9_isThere_16 (by decide) (pc' := 17) rfl ?_
      exact v_zret g hr hlk hK rfl (pinj hf) dk_9_isThere_17
    · replace hf := ifF hc hf
      refine v_iconst (v := 1) g dk_9_isThere_12 (by decide) (pc' := 13) rfl ?_
      refine v_goto (tgt := 17) g dk_9_isThere_13 (by decide) ?_
      exact v_zret g hr hlk hK rfl (pinj hf) dk_9_isThere_17
abbrev rm_CX_isAxis : Room := { frames := 0, cells := 0, slots := 0, locals := 0 }
def m_CX_isAxis (S : StC) (x0 : Int32) : Option Int32 :=
  if x0 < 0 then some 0
    else if 8 ≤ x0 then some 0
    else some 1
set_option maxHeartbeats 4000000 in
set_option maxRecDepth 100000 in
theorem c_CX_isAxis {l : Launch} {D : va_G} {ad : Nat → Nat} {ca : Nat → ClassId} {S : StC} {x0 : Int32} {r : Int32} (hf : m_CX_isAxis S x0 = some r) : KIC l D ad ca yk_0_isAxis (.code yk_0_isAxis bk_0_isAxis 1 (some .boolean) :: tb) rm_CX_isAxis [.int x0] S (r, S) := by
  refine met_z (by decide) (Nat.le_of_ble_eq_true rfl) (fun p e s m below meth c A g hr hlk hK hA => ?_)
  replace g : CallFix p m c bk_0_isAxis 1 s _ tb Rk_0 := g
  refine v_lv (lv' := [(0, .int x0)]) rfl ?_
  unfold m_CX_isAxis at hf
  refine v_iload_n g dk_0_isAxis_0 0 rfl rfl (pc' := 1) rfl ?_
  refine v_if_lt (tgt := 14) (pc' := 4) g dk_0_isAxis_1 (by decide) rfl (fun hc => ?_) (fun hc => ?_)
  · replace hf := ifT hc hf
    refine v_iconst (v := 0) g dk_0_isAxis_14 (by decide) (pc' := 15) rfl ?_
    exact v_zret g hr hlk hK rfl (pinj hf) dk_0_isAxis_15
  · replace hf := ifF hc hf
    refine v_iload_n g dk_0_isAxis_4 0 rfl rfl (pc' := 5) rfl ?_
    refine v_bipush (v := 8) g dk_0_isAxis_5 (by decide) (pc' := 7) rfl ?_
    refine v_icmp_ge (tgt := 14) (pc' := 10) g dk_0_isAxis_7 (by decide) rfl (fun hc => ?_) (fun hc => ?_)
    · replace hf := ifT hc hf
      refine v_iconst (v := 0) g dk_0_isAxis_14 (by decide) (pc' := 15) rfl ?_
      exact v_zret g hr hlk hK rfl (pinj hf) dk_0_isAxis_15
    · replace hf := ifF hc hf
      refine v_iconst (v := 1) g dk_0_isAxis_10 (by decide) (pc' := 11) rfl ?_
      refine v_goto (tgt := 15) g dk_0_isAxis_11 (by decide) ?_
      exact v_zret g hr hlk hK rfl (pinj hf) dk_0_isAxis_15
abbrev rm_CX_isValue : Room := { frames := 0, cells := 0, slots := 0, locals := 0 }
def m_CX_isValue (S : StC) (x0 : Int32) : Option Int32 :=
  if x0 < 0 then some 0
    else if 8 ≤ x0 then some 0
    else some 1
set_option maxHeartbeats 4000000 in
set_option maxRecDepth 100000 in
theorem c_CX_isValue {l : Launch} {D : va_G} {ad : Nat → Nat} {ca : Nat → ClassId} {S : StC} {x0 : Int32} {r : Int32} (hf : m_CX_isValue S x0 = some r) : KIC l D ad ca yk_0_isValue (.code yk_0_isValue bk_0_isValue 1 (some .boolean) :: tb) rm_CX_isValue [.int x0] S (r, S) := by
  refine met_z (by decide) (Nat.le_of_ble_eq_true rfl) (fun p e s m below meth c A g hr hlk hK hA => ?_)
  replace g : CallFix p m c bk_0_isValue 1 s _ tb Rk_0 := g
  refine v_lv (lv' := [(0, .int x0)]) rfl ?_
  unfold m_CX_isValue at hf
  refine v_iload_n g dk_0_isValue_0 0 rfl rfl (pc' := 1) rfl ?_
  refine v_if_lt (tgt := 14) (pc' := 4) g dk_0_isValue_1 (by decide) rfl (fun hc => ?_) (fun hc => ?_)
  · replace hf := ifT hc hf
    refine v_iconst (v := 0) g dk_0_isValue_14 (by decide) (pc' := 15) rfl ?_
    exact v_zret g hr hlk hK rfl (pinj hf) dk_0_isValue_15
  · replace hf := ifF hc hf
    refine v_iload_n g dk_0_isValue_4 0 rfl rfl (pc' := 5) rfl ?_
    refine v_bipush (v := 8) g dk_0_isValue_5 (by decide) (pc' := 7) rfl ?_
    refine v_icmp_ge (tgt := 14) (pc' := 10) g dk_0_isValue_7 (by decide) rfl (fun hc => ?_) (fun hc => ?_)
    · replace hf := ifT hc hf
      refine v_iconst (v := 0) g dk_0_isValue_14 (by decide) (pc' := 15) rfl ?_
      exact v_zret g hr hlk hK rfl (pinj hf) dk_0_isValue_15
    · replace hf := ifF hc hf
      refine v_iconst (v := 1) g dk_0_isValue_10 (by decide) (pc' := 11) rfl ?_
      refine v_goto (tgt := 15) g dk_0_isValue_11 (by decide) ?_
      exact v_zret g hr hlk hK rfl (pinj hf) dk_0_isValue_15
abbrev rm_CCodes_platformIn : Room := { frames := 0, cells := 0, slots := 0, locals := 0 }
def m_CCodes_platformIn (S : StC) (x0 : Int64) : Option Int32 :=
  some (((x0.toUInt64 >>> ((48 : Int32).toInt64.toUInt64 &&& Int64.toUInt64 63)).toInt64).toInt32)
set_option maxHeartbeats 4000000 in
set_option maxRecDepth 100000 in
theorem c_CCodes_platformIn {l : Launch} {D : va_G} {ad : Nat → Nat} {ca : Nat → ClassId} {S : StC} {x0 : Int64} {r : Int32} (hf : m_CCodes_platformIn S x0 = some r) : KIC l D ad ca yk_4_platformIn (.code yk_4_platformIn bk_4_platformIn 2 (some .int) :: tb) rm_CCodes_platformIn [.long x0] S (r, S) := by
  refine met_i (by decide) (Nat.le_of_ble_eq_true rfl) (fun p e s m below meth c A g hr hlk hK hA => ?_)
  replace g : CallFix p m c bk_4_platformIn 2 s _ tb Rk_4 := g
  refine v_lv (lv' := [(0, .long x0)]) rfl ?_
  unfold m_CCodes_platformIn at hf
  refine v_lload_n g dk_4_platformIn_0 0 rfl rfl (pc' := 1) rfl ?_
  refine v_bipush (v := 48) g dk_4_platformIn_1 (by decide) (pc' := 3) rfl ?_
  refine v_lushr g dk_4_platformIn_3 (pc' := 4) rfl ?_
  refine v_l2i g dk_4_platformIn_4 (pc' := 5) rfl ?_
  exact v_iret g hr hlk hK  (pinj hf) dk_4_platformIn_5
