abbrev rm_MX_configuration : Room := { frames := 2, cells := 0, slots := 0, locals := 45 }
def L_MX_configuration_23 : Nat → StM → Int32 → Option (StM)
  | 0, _, _ => none
  | n + 1, S, x2 =>
    if (gI S 0) ≤ x2 then some S
    else if inb x2 16 = true then (m_MX_give S x2 (gA S 2 x2.toNatClampNeg)).bind fun q4 =>
    L_MX_configuration_23 n q4 (x2 + 1) else none
set_option maxHeartbeats 4000000 in
set_option maxRecDepth 100000 in
theorem w_MX_configuration_23 {p : Program} {l : Launch} {e : Env} {s : State} {m : MethodId} {args : Array Value} {below : List Frame} {meth : Method} {c : Code} {A : Nat → Prop} {D : va_G} {ad : Nat → Nat} {ca : Nat → ClassId} {Rm : Int32 × StM} (g : CallFix p m c bk_1_configuration 3 s args tb Rk_1) (hr : meth.sig.returnType = some .int) (hlk : meth.locks = false) (hK : va_K D vwCl (tyM ca) s) (hA : ∀ q, s.heap.size ≤ q → A q) : ∀ (n : Nat) (S : StM) (x2 : Int32) (o : StM), L_MX_configuration_23 n S x2 = some o → (Vj p l e rm_MX_configuration s m args below meth c (MQ below (qI D vwCl (tyM ca) (wdM ad ca) A Rm) args s 0 0 A) D vwCl A 3 0 0 (wdM ad ca o) 48 [(0, .ref (ad 0))] []) → Vj p l e rm_MX_configuration s m args below meth c (MQ below (qI D vwCl (tyM ca) (wdM ad ca) A Rm) args s 0 0 A) D vwCl A 3 0 0 (wdM ad ca S) 23 [(0, .ref (ad 0)), (2, .int x2)] [] := by
  intro n
  induction n with
  | zero => intro S x2 o hf; exact nomatch (show none = some o from hf)
  | succ n ih =>
    intro S x2 o hf hx
    rw [L_MX_configuration_23] at hf
    refine v_iload_n g dk_1_configuration_23 1 rfl rfl (pc' := 24) rfl ?_
    refine v_aload_n g dk_1_configuration_24 0 rfl rfl (pc' := 25) rfl ?_
    refine gfM_X_99 g hK dk_1_configuration_25 (pc' := 28) rfl ?_
    refine v_icmp_ge (tgt := 48) (pc' := 31) g dk_1_configuration_28 (by decide) rfl (fun hc => ?_) (fun hc => ?_)
    · replace hf := ifT hc hf
      refine v_sub [0] rfl ?_
      have e9 := Option.some.inj hf
      subst e9
      exact hx
    · replace hf := ifF hc hf
      refine v_aload_n g dk_1_configuration_31 0 rfl rfl (pc' := 32) rfl ?_
      refine v_iload_n g dk_1_configuration_32 1 rfl rfl (pc' := 33) rfl ?_
      refine v_aload_n g dk_1_configuration_33 0 rfl rfl (pc' := 34) rfl ?_
      refine gfM_X_16 g hK dk_1_configuration_34 (pc' := 37) rfl ?_
      refine v_iload_n g dk_1_configuration_37 1 rfl rfl (pc' := 38) rfl ?_
      obtain ⟨hb3, hf⟩ := grd hf
      refine alM_3 g hK hb3 dk_1_configuration_38 (pc' := 39) rfl ?_
      obtain ⟨q4, hq, hf⟩ := bnd hf
      refine v_callV_v (As := [.int x2, .int (gA S 2 x2.toNatClampNeg)]) (rest := []) (S1 := q4) g hK hA (c_MX_give hq) (kcM_X_154 g.2.2.2.2 rfl rfl (Nat.le_of_ble_eq_true rfl) (Nat.le_of_ble_eq_true rfl)) (ci := 1) (q0 := 0) rfl rfl rfl rfl rfl (Nat.le_of_ble_eq_true rfl) dk_1_configuration_39 (Nat.zero_le _) (Nat.zero_le _) (pc' := 42) rfl ?_
      refine v_iinc (j := 1) (v := x2 + 1) (lv' := [(2, .int (x2 + 1)), (0, .ref (ad 0))]) g dk_1_configuration_42 rfl rfl (by decide) rfl (pc' := 45) rfl ?_
      refine v_goto (tgt := 23) g dk_1_configuration_45 (by decide) ?_
      refine v_sub [1, 0] rfl ?_
      exact ih q4 (x2 + 1) o hf hx
def m_MX_configuration (S : StM) (x1 : Int32) : Option (Int32 × StM) :=
  (m_MX_in S x1 (gI S 1)).bind fun q1 =>
    if q1 = 0 then some ((-1), S)
    else if inb 60 61 = true then (L_MX_configuration_23 100 (tA S 4 60 x1) 0).bind fun y6 =>
    (m_MX_numbered y6).bind fun q7 =>
    some (q7.1, q7.2) else none
set_option maxHeartbeats 4000000 in
set_option maxRecDepth 100000 in
theorem c_MX_configuration {l : Launch} {D : va_G} {ad : Nat → Nat} {ca : Nat → ClassId} {S : StM} {x1 : Int32} {r : Int32 × StM} (hf : m_MX_configuration S x1 = some r) : KIM l D ad ca yk_1_configuration (.code yk_1_configuration bk_1_configuration 3 (some .int) :: tb) rm_MX_configuration [.ref (ad 0), .int x1] S r := by
  refine met_i (by decide) (Nat.le_of_ble_eq_true rfl) (fun p e s m below meth c A g hr hlk hK hA => ?_)
  replace g : CallFix p m c bk_1_configuration 3 s _ tb Rk_1 := g
  refine v_lv (lv' := [(0, .ref (ad 0)), (1, .int x1)]) rfl ?_
  unfold m_MX_configuration at hf
  refine v_iload_n g dk_1_configuration_0 1 rfl rfl (pc' := 1) rfl ?_
  refine v_aload_n g dk_1_configuration_1 0 rfl rfl (pc' := 2) rfl ?_
  refine gfM_X_110 g hK dk_1_configuration_2 (pc' := 5) rfl ?_
  obtain ⟨q1, hq, hf⟩ := bnd hf
  refine v_callS_i (As := [.int x1, .int (gI S 1)]) (rest := []) (r := q1) (S1 := S) g hK hA (c_MX_in hq) (kcM_X_102 g.2.2.2.2 rfl rfl (Nat.le_of_ble_eq_true rfl) (Nat.le_of_ble_eq_true rfl)) rfl rfl (Nat.le_of_ble_eq_true rfl) dk_1_configuration_5 (Nat.zero_le _) (Nat.zero_le _) (pc' := 8) rfl ?_
  refine v_if_ne (tgt := 13) (pc' := 11) g dk_1_configuration_8 (by decide) rfl (fun hc => ?_) (fun hc => ?_)
  · replace hf := ifF hc hf
    refine v_aload_n g dk_1_configuration_13 0 rfl rfl (pc' := 14) rfl ?_
    refine gfM_X_22 g hK dk_1_configuration_14 (pc' := 17) rfl ?_
    refine v_bipush (v := 60) g dk_1_configuration_17 (by decide) (pc' := 19) rfl ?_
    refine v_iload_n g dk_1_configuration_19 1 rfl rfl (pc' := 20) rfl ?_
    obtain ⟨hb2, hf⟩ := grd hf
    refine asM_5 g hK hb2 dk_1_configuration_20 (pc' := 21) rfl ?_
    refine v_iconst (v := 0) g dk_1_configuration_21 (by decide) (pc' := 22) rfl ?_
    refine v_istore_n (lv' := [(2, .int 0), (0, .ref (ad 0)), (1, .int x1)]) g dk_1_configuration_22 rfl (by decide) rfl (pc' := 23) rfl ?_
    refine v_sub [1, 0] rfl ?_
    obtain ⟨y6, hL, hf⟩ := bnd hf
    refine w_MX_configuration_23 g hr hlk hK hA 100 (tA S 4 60 x1) 0 _ hL ?_
    refine v_aload_n g dk_1_configuration_48 0 rfl rfl (pc' := 49) rfl ?_
    obtain ⟨q7, hq, hf⟩ := bnd hf
    refine v_callV_i (As := []) (rest := []) (r := q7.1) (S1 := q7.2) g hK hA (c_MX_numbered hq) (kcM_X_157 g.2.2.2.2 rfl rfl (Nat.le_of_ble_eq_true rfl) (Nat.le_of_ble_eq_true rfl)) (ci := 1) (q0 := 0) rfl rfl rfl rfl rfl (Nat.le_of_ble_eq_true rfl) dk_1_configuration_49 (Nat.zero_le _) (Nat.zero_le _) (pc' := 52) rfl ?_
    exact v_iret g hr hlk hK  (Option.some.inj hf) dk_1_configuration_52
  · replace hf := ifT hc hf
    refine v_iconst (v := (-1)) g dk_1_configuration_11 (by decide) (pc' := 12) rfl ?_
    exact v_iret g hr hlk hK  (Option.some.inj hf) dk_1_configuration_12
abbrev rm_MX_set : Room := { frames := 2, cells := 0, slots := 0, locals := 45 }
def m_MX_set (S : StM) (x1 : Int32) (x2 : Int32) (x3 : Int32) : Option (Int32 × StM) :=
  (m_MX_baseOf S x2).bind fun q1 =>
    (m_MX_in S x1 (gI S 2)).bind fun q2 =>
    if q2 = 0 then some ((-1), S)
    else if q1 = (-1) then some ((-1), S)
    else if inb q1 16 = true then (m_MX_in S x3 (gA S 1 q1.toNatClampNeg)).bind fun q4 =>
    if q4 = 0 then some ((-1), S)
    else (m_MX_copy S x1 60).bind fun q5 =>
    (m_MX_give q5 q1 x3).bind fun q6 =>
    (m_MX_numbered q6).bind fun q7 =>
    some (q7.1, q7.2) else none
set_option maxHeartbeats 4000000 in
set_option maxRecDepth 100000 in
theorem c_MX_set {l : Launch} {D : va_G} {ad : Nat → Nat} {ca : Nat → ClassId} {S : StM} {x1 : Int32} {x2 : Int32} {x3 : Int32} {r : Int32 × StM} (hf : m_MX_set S x1 x2 x3 = some r) : KIM l D ad ca yk_1_set (.code yk_1_set bk_1_set 5 (some .int) :: tb) rm_MX_set [.ref (ad 0), .int x1, .int x2, .int x3] S r := by
  refine met_i (by decide) (Nat.le_of_ble_eq_true rfl) (fun p e s m below meth c A g hr hlk hK hA => ?_)
  replace g : CallFix p m c bk_1_set 5 s _ tb Rk_1 := g
  refine v_lv (lv' := [(0, .ref (ad 0)), (1, .int x1), (2, .int x2), (3, .int x3)]) rfl ?_
  unfold m_MX_set at hf
  refine v_aload_n g dk_1_set_0 0 rfl rfl (pc' := 1) rfl ?_
  refine v_iload_n g dk_1_set_1 2 rfl rfl (pc' := 2) rfl ?_
  obtain ⟨q1, hq, hf⟩ := bnd hf
  refine v_callV_i (As := [.int x2]) (rest := []) (r := q1) (S1 := S) g hK hA (c_MX_baseOf hq) (kcM_X_106 g.2.2.2.2 rfl rfl (Nat.le_of_ble_eq_true rfl) (Nat.le_of_ble_eq_true rfl)) (ci := 1) (q0 := 0) rfl rfl rfl rfl rfl (Nat.le_of_ble_eq_true rfl) dk_1_set_2 (Nat.zero_le _) (Nat.zero_le _) (pc' := 5) rfl ?_
  refine v_istore (lv' := [(4, .int q1), (0, .ref (ad 0)), (1, .int x1), (2, .int x2), (3, .int x3)]) g dk_1_set_5 (by decide) rfl (pc' := 7) rfl ?_
  refine v_iload_n g dk_1_set_7 2 rfl rfl (pc' := 8) rfl ?_
  refine v_aload_n g dk_1_set_8 1 rfl rfl (pc' := 9) rfl ?_
  refine gfM_X_113 g hK dk_1_set_9 (pc' := 12) rfl ?_
  obtain ⟨q2, hq, hf⟩ := bnd hf
  refine v_callS_i (As := [.int x1, .int (gI S 2)]) (rest := []) (r := q2) (S1 := S) g hK hA (c_MX_in hq) (kcM_X_102 g.2.2.2.2 rfl rfl (Nat.le_of_ble_eq_true rfl) (Nat.le_of_ble_eq_true rfl)) rfl rfl (Nat.le_of_ble_eq_true rfl) dk_1_set_12 (Nat.zero_le _) (Nat.zero_le _) (pc' := 15) rfl ?_
  refine v_if_eq (tgt := 38) (pc' := 18) g dk_1_set_15 (by decide) rfl (fun hc => ?_) (fun hc => ?_)
  · replace hf := ifT hc hf
    refine v_iconst (v := (-1)) g dk_1_set_38 (by decide) (pc' := 39) rfl ?_
    exact v_iret g hr hlk hK  (Option.some.inj hf) dk_1_set_39
  · replace hf := ifF hc hf
    refine v_iload g dk_1_set_18 0 rfl (pc' := 20) rfl ?_
    refine v_iconst (v := (-1)) g dk_1_set_20 (by decide) (pc' := 21) rfl ?_
    refine v_icmp_eq (tgt := 38) (pc' := 24) g dk_1_set_21 (by decide) rfl (fun hc => ?_) (fun hc => ?_)
    · replace hf := ifT hc hf
      refine v_iconst (v := (-1)) g dk_1_set_38 (by decide) (pc' := 39) rfl ?_
      exact v_iret g hr hlk hK  (Option.some.inj hf) dk_1_set_39
    · replace hf := ifF hc hf
      refine v_iload_n g dk_1_set_24 4 rfl rfl (pc' := 25) rfl ?_
      refine v_aload_n g dk_1_set_25 1 rfl rfl (pc' := 26) rfl ?_
      refine gfM_X_13 g hK dk_1_set_26 (pc' := 29) rfl ?_
      refine v_iload g dk_1_set_29 0 rfl (pc' := 31) rfl ?_
      obtain ⟨hb3, hf⟩ := grd hf
      refine alM_2 g hK hb3 dk_1_set_31 (pc' := 32) rfl ?_
      obtain ⟨q4, hq, hf⟩ := bnd hf
      refine v_callS_i (As := [.int x3, .int (gA S 1 q1.toNatClampNeg)]) (rest := []) (r := q4) (S1 := S) g hK hA (c_MX_in hq) (kcM_X_102 g.2.2.2.2 rfl rfl (Nat.le_of_ble_eq_true rfl) (Nat.le_of_ble_eq_true rfl)) rfl rfl (Nat.le_of_ble_eq_true rfl) dk_1_set_32 (Nat.zero_le _) (Nat.zero_le _) (pc' := 35) rfl ?_
      refine v_if_ne (tgt := 40) (pc' := 38) g dk_1_set_35 (by decide) rfl (fun hc => ?_) (fun hc => ?_)
      · replace hf := ifF hc hf
        refine v_aload_n g dk_1_set_40 1 rfl rfl (pc' := 41) rfl ?_
        refine v_iload_n g dk_1_set_41 2 rfl rfl (pc' := 42) rfl ?_
        refine v_bipush (v := 60) g dk_1_set_42 (by decide) (pc' := 44) rfl ?_
        obtain ⟨q5, hq, hf⟩ := bnd hf
        refine v_callV_v (As := [.int x1, .int 60]) (rest := []) (S1 := q5) g hK hA (c_MX_copy hq) (kcM_X_150 g.2.2.2.2 rfl rfl (Nat.le_of_ble_eq_true rfl) (Nat.le_of_ble_eq_true rfl)) (ci := 1) (q0 := 0) rfl rfl rfl rfl rfl (Nat.le_of_ble_eq_true rfl) dk_1_set_44 (Nat.zero_le _) (Nat.zero_le _) (pc' := 47) rfl ?_
        refine v_aload_n g dk_1_set_47 1 rfl rfl (pc' := 48) rfl ?_
        refine v_iload g dk_1_set_48 0 rfl (pc' := 50) rfl ?_
        refine v_iload_n g dk_1_set_50 4 rfl rfl (pc' := 51) rfl ?_
        obtain ⟨q6, hq, hf⟩ := bnd hf
        refine v_callV_v (As := [.int q1, .int x3]) (rest := []) (S1 := q6) g hK hA (c_MX_give hq) (kcM_X_154 g.2.2.2.2 rfl rfl (Nat.le_of_ble_eq_true rfl) (Nat.le_of_ble_eq_true rfl)) (ci := 1) (q0 := 0) rfl rfl rfl rfl rfl (Nat.le_of_ble_eq_true rfl) dk_1_set_51 (Nat.zero_le _) (Nat.zero_le _) (pc' := 54) rfl ?_
        refine v_aload_n g dk_1_set_54 1 rfl rfl (pc' := 55) rfl ?_
        obtain ⟨q7, hq, hf⟩ := bnd hf
        refine v_callV_i (As := []) (rest := []) (r := q7.1) (S1 := q7.2) g hK hA (c_MX_numbered hq) (kcM_X_157 g.2.2.2.2 rfl rfl (Nat.le_of_ble_eq_true rfl) (Nat.le_of_ble_eq_true rfl)) (ci := 1) (q0 := 0) rfl rfl rfl rfl rfl (Nat.le_of_ble_eq_true rfl) dk_1_set_55 (Nat.zero_le _) (Nat.zero_le _) (pc' := 58) rfl ?_
        exact v_iret g hr hlk hK  (Option.some.inj hf) dk_1_set_58
      · replace hf := ifT hc hf
        refine v_iconst (v := (-1)) g dk_1_set_38 (by decide) (pc' := 39) rfl ?_
        exact v_iret g hr hlk hK  (Option.some.inj hf) dk_1_set_39
abbrev rm_MX_value : Room := { frames := 2, cells := 0, slots := 0, locals := 44 }
def m_MX_value (S : StM) (x1 : Int32) (x2 : Int32) : Option Int32 :=
  (m_MX_baseOf S x2).bind fun q1 =>
    (m_MX_in S x1 (gI S 2)).bind fun q2 =>
    if q2 = 0 then some (-1)
    else if q1 = (-1) then some (-1)
    else if inb (((16 : Int32) * x1) + q1) 976 = true then some (gA S 5 (((16 : Int32) * x1) + q1).toNatClampNeg) else none
set_option maxHeartbeats 4000000 in
set_option maxRecDepth 100000 in
theorem c_MX_value {l : Launch} {D : va_G} {ad : Nat → Nat} {ca : Nat → ClassId} {S : StM} {x1 : Int32} {x2 : Int32} {r : Int32} (hf : m_MX_value S x1 x2 = some r) : KIM l D ad ca yk_1_value (.code yk_1_value bk_1_value 4 (some .int) :: tb) rm_MX_value [.ref (ad 0), .int x1, .int x2] S (r, S) := by
  refine met_i (by decide) (Nat.le_of_ble_eq_true rfl) (fun p e s m below meth c A g hr hlk hK hA => ?_)
  replace g : CallFix p m c bk_1_value 4 s _ tb Rk_1 := g
  refine v_lv (lv' := [(0, .ref (ad 0)), (1, .int x1), (2, .int x2)]) rfl ?_
  unfold m_MX_value at hf
  refine v_aload_n g dk_1_value_0 0 rfl rfl (pc' := 1) rfl ?_
  refine v_iload_n g dk_1_value_1 2 rfl rfl (pc' := 2) rfl ?_
  obtain ⟨q1, hq, hf⟩ := bnd hf
  refine v_callV_i (As := [.int x2]) (rest := []) (r := q1) (S1 := S) g hK hA (c_MX_baseOf hq) (kcM_X_106 g.2.2.2.2 rfl rfl (Nat.le_of_ble_eq_true rfl) (Nat.le_of_ble_eq_true rfl)) (ci := 1) (q0 := 0) rfl rfl rfl rfl rfl (Nat.le_of_ble_eq_true rfl) dk_1_value_2 (Nat.zero_le _) (Nat.zero_le _) (pc' := 5) rfl ?_
  refine v_istore_n (lv' := [(3, .int q1), (0, .ref (ad 0)), (1, .int x1), (2, .int x2)]) g dk_1_value_5 rfl (by decide) rfl (pc' := 6) rfl ?_
  refine v_iload_n g dk_1_value_6 2 rfl rfl (pc' := 7) rfl ?_
  refine v_aload_n g dk_1_value_7 1 rfl rfl (pc' := 8) rfl ?_
  refine gfM_X_113 g hK dk_1_value_8 (pc' := 11) rfl ?_
  obtain ⟨q2, hq, hf⟩ := bnd hf
  refine v_callS_i (As := [.int x1, .int (gI S 2)]) (rest := []) (r := q2) (S1 := S) g hK hA (c_MX_in hq) (kcM_X_102 g.2.2.2.2 rfl rfl (Nat.le_of_ble_eq_true rfl) (Nat.le_of_ble_eq_true rfl)) rfl rfl (Nat.le_of_ble_eq_true rfl) dk_1_value_11 (Nat.zero_le _) (Nat.zero_le _) (pc' := 14) rfl ?_
  refine v_if_eq (tgt := 22) (pc' := 17) g dk_1_value_14 (by decide) rfl (fun hc => ?_) (fun hc => ?_)
  · replace hf := ifT hc hf
    refine v_iconst (v := (-1)) g dk_1_value_22 (by decide) (pc' := 23) rfl ?_
    refine v_goto (tgt := 37) g dk_1_value_23 (by decide) ?_
    exact v_iret g hr hlk hK  (pinj hf) dk_1_value_37
  · replace hf := ifF hc hf
    refine v_iload_n g dk_1_value_17 0 rfl rfl (pc' := 18) rfl ?_
    refine v_iconst (v := (-1)) g dk_1_value_18 (by decide) (pc' := 19) rfl ?_
    refine v_icmp_ne (tgt := 26) (pc' := 22) g dk_1_value_19 (by decide) rfl (fun hc => ?_) (fun hc => ?_)
    · replace hf := ifF hc hf
      refine v_aload_n g dk_1_value_26 1 rfl rfl (pc' := 27) rfl ?_
      refine gfM_X_25 g hK dk_1_value_27 (pc' := 30) rfl ?_
      refine v_bipush (v := 16) g dk_1_value_30 (by decide) (pc' := 32) rfl ?_
      refine v_iload_n g dk_1_value_32 2 rfl rfl (pc' := 33) rfl ?_
      refine v_imul g dk_1_value_33 (pc' := 34) rfl ?_
      refine v_iload_n g dk_1_value_34 0 rfl rfl (pc' := 35) rfl ?_
      refine v_iadd g dk_1_value_35 (pc' := 36) rfl ?_
      obtain ⟨hb3, hf⟩ := grd hf
      refine alM_6 g hK hb3 dk_1_value_36 (pc' := 37) rfl ?_
      exact v_iret g hr hlk hK  (pinj hf) dk_1_value_37
    · replace hf := ifT hc hf
      refine v_iconst (v := (-1)) g dk_1_value_22 (by decide) (pc' := 23) rfl ?_
      refine v_goto (tgt := 37) g dk_1_value_23 (by decide) ?_
      exact v_iret g hr hlk hK  (pinj hf) dk_1_value_37
abbrev rm_MX_about : Room := { frames := 2, cells := 0, slots := 0, locals := 44 }
def m_MX_about (S : StM) (x1 : Int32) : Option Int32 :=
  if inb x1 240 = true then if (gA S 9 x1.toNatClampNeg) = 0 then (m_MX_baseOf S (gA S 7 x1.toNatClampNeg)).bind fun q2 =>
    if (gA S 9 x1.toNatClampNeg) = 0 then if q2 = (-1) then some (((8 : Int32) * ((100 : Int32) + (gA S 7 x1.toNatClampNeg))) + (gA S 8 x1.toNatClampNeg))
    else some (((8 : Int32) * q2) + (gA S 8 x1.toNatClampNeg))
    else some (((8 : Int32) * ((200 : Int32) + (gA S 7 x1.toNatClampNeg))) + (gA S 8 x1.toNatClampNeg))
    else if (gA S 9 x1.toNatClampNeg) = 0 then if ((-1) : Int32) = (-1) then some (((8 : Int32) * ((100 : Int32) + (gA S 7 x1.toNatClampNeg))) + (gA S 8 x1.toNatClampNeg))
    else some (((8 : Int32) * ((-1) : Int32)) + (gA S 8 x1.toNatClampNeg))
    else some (((8 : Int32) * ((200 : Int32) + (gA S 7 x1.toNatClampNeg))) + (gA S 8 x1.toNatClampNeg)) else none
set_option maxHeartbeats 4000000 in
set_option maxRecDepth 100000 in
theorem c_MX_about {l : Launch} {D : va_G} {ad : Nat → Nat} {ca : Nat → ClassId} {S : StM} {x1 : Int32} {r : Int32} (hf : m_MX_about S x1 = some r) : KIM l D ad ca yk_1_about (.code yk_1_about bk_1_about 5 (some .int) :: tb) rm_MX_about [.ref (ad 0), .int x1] S (r, S) := by
  refine met_i (by decide) (Nat.le_of_ble_eq_true rfl) (fun p e s m below meth c A g hr hlk hK hA => ?_)
  replace g : CallFix p m c bk_1_about 5 s _ tb Rk_1 := g
  refine v_lv (lv' := [(0, .ref (ad 0)), (1, .int x1)]) rfl ?_
  unfold m_MX_about at hf
  refine v_aload_n g dk_1_about_0 0 rfl rfl (pc' := 1) rfl ?_
  refine gfM_X_31 g hK dk_1_about_1 (pc' := 4) rfl ?_
  refine v_iload_n g dk_1_about_4 1 rfl rfl (pc' := 5) rfl ?_
  obtain ⟨hb1, hf⟩ := grd hf
  refine alM_8 g hK hb1 dk_1_about_5 (pc' := 6) rfl ?_
  refine v_istore_n (lv' := [(2, .int (gA S 7 x1.toNatClampNeg)), (0, .ref (ad 0)), (1, .int x1)]) g dk_1_about_6 rfl (by decide) rfl (pc' := 7) rfl ?_
  refine v_aload_n g dk_1_about_7 1 rfl rfl (pc' := 8) rfl ?_
  refine gfM_X_37 g hK dk_1_about_8 (pc' := 11) rfl ?_
  refine v_iload_n g dk_1_about_11 2 rfl rfl (pc' := 12) rfl ?_
  refine alM_10 g hK hb1 dk_1_about_12 (pc' := 13) rfl ?_
  refine v_if_eq (tgt := 20) (pc' := 16) g dk_1_about_13 (by decide) rfl (fun hc => ?_) (fun hc => ?_)
  · replace hf := ifT hc hf
    refine v_aload_n g dk_1_about_20 1 rfl rfl (pc' := 21) rfl ?_
    refine v_iload_n g dk_1_about_21 0 rfl rfl (pc' := 22) rfl ?_
    obtain ⟨q2, hq, hf⟩ := bnd hf
    refine v_callV_i (As := [.int (gA S 7 x1.toNatClampNeg)]) (rest := []) (r := q2) (S1 := S) g hK hA (c_MX_baseOf hq) (kcM_X_106 g.2.2.2.2 rfl rfl (Nat.le_of_ble_eq_true rfl) (Nat.le_of_ble_eq_true rfl)) (ci := 1) (q0 := 0) rfl rfl rfl rfl rfl (Nat.le_of_ble_eq_true rfl) dk_1_about_22 (Nat.zero_le _) (Nat.zero_le _) (pc' := 25) rfl ?_
    refine v_istore_n (lv' := [(3, .int q2), (2, .int (gA S 7 x1.toNatClampNeg)), (0, .ref (ad 0)), (1, .int x1)]) g dk_1_about_25 rfl (by decide) rfl (pc' := 26) rfl ?_
    refine v_aload_n g dk_1_about_26 2 rfl rfl (pc' := 27) rfl ?_
    refine gfM_X_37 g hK dk_1_about_27 (pc' := 30) rfl ?_
    refine v_iload_n g dk_1_about_30 3 rfl rfl (pc' := 31) rfl ?_
    refine alM_10 g hK hb1 dk_1_about_31 (pc' := 32) rfl ?_
    refine v_if_eq (tgt := 43) (pc' := 35) g dk_1_about_32 (by decide) rfl (fun hc => ?_) (fun hc => ?_)
    · replace hf := ifT hc hf
      refine v_iload_n g dk_1_about_43 0 rfl rfl (pc' := 44) rfl ?_
      refine v_iconst (v := (-1)) g dk_1_about_44 (by decide) (pc' := 45) rfl ?_
      refine v_icmp_ne (tgt := 55) (pc' := 48) g dk_1_about_45 (by decide) rfl (fun hc => ?_) (fun hc => ?_)
      · replace hf := ifF hc hf
        refine v_iload_n g dk_1_about_55 0 rfl rfl (pc' := 56) rfl ?_
        refine v_istore (lv' := [(4, .int q2), (3, .int q2), (2, .int (gA S 7 x1.toNatClampNeg)), (0, .ref (ad 0)), (1, .int x1)]) g dk_1_about_56 (by decide) rfl (pc' := 58) rfl ?_
        refine v_bipush (v := 8) g dk_1_about_58 (by decide) (pc' := 60) rfl ?_
        refine v_iload g dk_1_about_60 0 rfl (pc' := 62) rfl ?_
        refine v_imul g dk_1_about_62 (pc' := 63) rfl ?_
        refine v_aload_n g dk_1_about_63 3 rfl rfl (pc' := 64) rfl ?_
        refine gfM_X_34 g hK dk_1_about_64 (pc' := 67) rfl ?_
        refine v_iload_n g dk_1_about_67 4 rfl rfl (pc' := 68) rfl ?_
        refine alM_9 g hK hb1 dk_1_about_68 (pc' := 69) rfl ?_
        refine v_iadd g dk_1_about_69 (pc' := 70) rfl ?_
        exact v_iret g hr hlk hK  (pinj hf) dk_1_about_70
      · replace hf := ifT hc hf
        refine v_bipush (v := 100) g dk_1_about_48 (by decide) (pc' := 50) rfl ?_
        refine v_iload_n g dk_1_about_50 1 rfl rfl (pc' := 51) rfl ?_
        refine v_iadd g dk_1_about_51 (pc' := 52) rfl ?_
        refine v_goto (tgt := 56) g dk_1_about_52 (by decide) ?_
        refine v_istore (lv' := [(4, .int ((100 : Int32) + (gA S 7 x1.toNatClampNeg))), (3, .int q2), (2, .int (gA S 7 x1.toNatClampNeg)), (0, .ref (ad 0)), (1, .int x1)]) g dk_1_about_56 (by decide) rfl (pc' := 58) rfl ?_
        refine v_bipush (v := 8) g dk_1_about_58 (by decide) (pc' := 60) rfl ?_
        refine v_iload g dk_1_about_60 0 rfl (pc' := 62) rfl ?_
        refine v_imul g dk_1_about_62 (pc' := 63) rfl ?_
        refine v_aload_n g dk_1_about_63 3 rfl rfl (pc' := 64) rfl ?_
        refine gfM_X_34 g hK dk_1_about_64 (pc' := 67) rfl ?_
        refine v_iload_n g dk_1_about_67 4 rfl rfl (pc' := 68) rfl ?_
        refine alM_9 g hK hb1 dk_1_about_68 (pc' := 69) rfl ?_
        refine v_iadd g dk_1_about_69 (pc' := 70) rfl ?_
        exact v_iret g hr hlk hK  (pinj hf) dk_1_about_70
    · replace hf := ifF hc hf
      refine v_sipush (v := 200) g dk_1_about_35 (by decide) (pc' := 38) rfl ?_
      refine v_iload_n g dk_1_about_38 1 rfl rfl (pc' := 39) rfl ?_
      refine v_iadd g dk_1_about_39 (pc' := 40) rfl ?_
      refine v_goto (tgt := 56) g dk_1_about_40 (by decide) ?_
      refine v_istore (lv' := [(4, .int ((200 : Int32) + (gA S 7 x1.toNatClampNeg))), (3, .int q2), (2, .int (gA S 7 x1.toNatClampNeg)), (0, .ref (ad 0)), (1, .int x1)]) g dk_1_about_56 (by decide) rfl (pc' := 58) rfl ?_
      refine v_bipush (v := 8) g dk_1_about_58 (by decide) (pc' := 60) rfl ?_
      refine v_iload g dk_1_about_60 0 rfl (pc' := 62) rfl ?_
      refine v_imul g dk_1_about_62 (pc' := 63) rfl ?_
      refine v_aload_n g dk_1_about_63 3 rfl rfl (pc' := 64) rfl ?_
      refine gfM_X_34 g hK dk_1_about_64 (pc' := 67) rfl ?_
      refine v_iload_n g dk_1_about_67 4 rfl rfl (pc' := 68) rfl ?_
      refine alM_9 g hK hb1 dk_1_about_68 (pc' := 69) rfl ?_
      refine v_iadd g dk_1_about_69 (pc' := 70) rfl ?_
      exact v_iret g hr hlk hK  (pinj hf) dk_1_about_70
  · replace hf := ifF hc hf
    refine v_iconst (v := (-1)) g dk_1_about_16 (by decide) (pc' := 17) rfl ?_
    refine v_goto (tgt := 25) g dk_1_about_17 (by decide) ?_
    refine v_istore_n (lv' := [(3, .int (-1)), (2, .int (gA S 7 x1.toNatClampNeg)), (0, .ref (ad 0)), (1, .int x1)]) g dk_1_about_25 rfl (by decide) rfl (pc' := 26) rfl ?_
    refine v_aload_n g dk_1_about_26 2 rfl rfl (pc' := 27) rfl ?_
    refine gfM_X_37 g hK dk_1_about_27 (pc' := 30) rfl ?_
    refine v_iload_n g dk_1_about_30 3 rfl rfl (pc' := 31) rfl ?_
    refine alM_10 g hK hb1 dk_1_about_31 (pc' := 32) rfl ?_
    refine v_if_eq (tgt := 43) (pc' := 35) g dk_1_about_32 (by decide) rfl (fun hc => ?_) (fun hc => ?_)
    · replace hf := ifT hc hf
      refine v_iload_n g dk_1_about_43 0 rfl rfl (pc' := 44) rfl ?_
      refine v_iconst (v := (-1)) g dk_1_about_44 (by decide) (pc' := 45) rfl ?_
      refine v_icmp_ne (tgt := 55) (pc' := 48) g dk_1_about_45 (by decide) rfl (fun hc => ?_) (fun hc => ?_)
      · replace hf := ifF hc hf
        refine v_iload_n g dk_1_about_55 0 rfl rfl (pc' := 56) rfl ?_
        refine v_istore (lv' := [(4, .int (-1)), (3, .int (-1)), (2, .int (gA S 7 x1.toNatClampNeg)), (0, .ref (ad 0)), (1, .int x1)]) g dk_1_about_56 (by decide) rfl (pc' := 58) rfl ?_
        refine v_bipush (v := 8) g dk_1_about_58 (by decide) (pc' := 60) rfl ?_
        refine v_iload g dk_1_about_60 0 rfl (pc' := 62) rfl ?_
        refine v_imul g dk_1_about_62 (pc' := 63) rfl ?_
        refine v_aload_n g dk_1_about_63 3 rfl rfl (pc' := 64) rfl ?_
        refine gfM_X_34 g hK dk_1_about_64 (pc' := 67) rfl ?_
        refine v_iload_n g dk_1_about_67 4 rfl rfl (pc' := 68) rfl ?_
        refine alM_9 g hK hb1 dk_1_about_68 (pc' := 69) rfl ?_
        refine v_iadd g dk_1_about_69 (pc' := 70) rfl ?_
        exact v_iret g hr hlk hK  (pinj hf) dk_1_about_70
      · replace hf := ifT hc hf
        refine v_bipush (v := 100) g dk_1_about_48 (by decide) (pc' := 50) rfl ?_
        refine v_iload_n g dk_1_about_50 1 rfl rfl (pc' := 51) rfl ?_
        refine v_iadd g dk_1_about_51 (pc' := 52) rfl ?_
        refine v_goto (tgt := 56) g dk_1_about_52 (by decide) ?_
        refine v_istore (lv' := [(4, .int ((100 : Int32) + (gA S 7 x1.toNatClampNeg))), (3, .int (-1)), (2, .int (gA S 7 x1.toNatClampNeg)), (0, .ref (ad 0)), (1, .int x1)]) g dk_1_about_56 (by decide) rfl (pc' := 58) rfl ?_
        refine v_bipush (v := 8) g dk_1_about_58 (by decide) (pc' := 60) rfl ?_
        refine v_iload g dk_1_about_60 0 rfl (pc' := 62) rfl ?_
        refine v_imul g dk_1_about_62 (pc' := 63) rfl ?_
        refine v_aload_n g dk_1_about_63 3 rfl rfl (pc' := 64) rfl ?_
        refine gfM_X_34 g hK dk_1_about_64 (pc' := 67) rfl ?_
        refine v_iload_n g dk_1_about_67 4 rfl rfl (pc' := 68) rfl ?_
        refine alM_9 g hK hb1 dk_1_about_68 (pc' := 69) rfl ?_
        refine v_iadd g dk_1_about_69 (pc' := 70) rfl ?_
        exact v_iret g hr hlk hK  (pinj hf) dk_1_about_70
    · replace hf := ifF hc hf
      refine v_sipush (v := 200) g dk_1_about_35 (by decide) (pc' := 38) rfl ?_
      refine v_iload_n g dk_1_about_38 1 rfl rfl (pc' := 39) rfl ?_
      refine v_iadd g dk_1_about_39 (pc' := 40) rfl ?_
      refine v_goto (tgt := 56) g dk_1_about_40 (by decide) ?_
      refine v_istore (lv' := [(4, .int ((200 : Int32) + (gA S 7 x1.toNatClampNeg))), (3, .int (-1)), (2, .int (gA S 7 x1.toNatClampNeg)), (0, .ref (ad 0)), (1, .int x1)]) g dk_1_about_56 (by decide) rfl (pc' := 58) rfl ?_
      refine v_bipush (v := 8) g dk_1_about_58 (by decide) (pc' := 60) rfl ?_
      refine v_iload g dk_1_about_60 0 rfl (pc' := 62) rfl ?_
      refine v_imul g dk_1_about_62 (pc' := 63) rfl ?_
      refine v_aload_n g dk_1_about_63 3 rfl rfl (pc' := 64) rfl ?_
      refine gfM_X_34 g hK dk_1_about_64 (pc' := 67) rfl ?_
      refine v_iload_n g dk_1_about_67 4 rfl rfl (pc' := 68) rfl ?_
      refine alM_9 g hK hb1 dk_1_about_68 (pc' := 69) rfl ?_
      refine v_iadd g dk_1_about_69 (pc' := 70) rfl ?_
      exact v_iret g hr hlk hK  (pinj hf) dk_1_about_70
abbrev rm_MX_hasAll : Room := { frames := 3, cells := 0, slots := 0, locals := 68 }
def L_MX_hasAll_33 (S : StM) (x1 : Int32) (x2 : Int32) (x3 : Int32) (x4 : Int32) : Nat → Int32 → Int32 → Option (Int32)
  | 0, _, _ => none
  | n + 1, x5, x6 =>
    if inb x1 40 = true then if (((6 : Int32) * x1) + (gA S 6 x1.toNatClampNeg)) ≤ x6 then some x5
    else if x5 = 0 then (m_MX_about S x6).bind fun q3 =>
    (m_MX_about S x4).bind fun q4 =>
    if q3 = q4 then L_MX_hasAll_33 S x1 x2 x3 x4 n 1 (x6 + 1)
    else L_MX_hasAll_33 S x1 x2 x3 x4 n 0 (x6 + 1)
    else L_MX_hasAll_33 S x1 x2 x3 x4 n 1 (x6 + 1) else none
set_option maxHeartbeats 4000000 in
set_option maxRecDepth 100000 in
theorem w_MX_hasAll_33 {p : Program} {l : Launch} {e : Env} {s : State} {m : MethodId} {args : Array Value} {below : List Frame} {meth : Method} {c : Code} {A : Nat → Prop} {D : va_G} {ad : Nat → Nat} {ca : Nat → ClassId} {Rm : Int32 × StM} {S : StM} {x1 : Int32} {x2 : Int32} {x3 : Int32} {x4 : Int32} (g : CallFix p m c bk_1_hasAll 7 s args tb Rk_1) (hr : meth.sig.returnType = some .boolean) (hlk : meth.locks = false) (hK : va_K D vwCl (tyM ca) s) (hA : ∀ q, s.heap.size ≤ q → A q) : ∀ (n : Nat) (x5 : Int32) (x6 : Int32) (o : Int32), L_MX_hasAll_33 S x1 x2 x3 x4 n x5 x6 = some o → (Vj p l e rm_MX_hasAll s m args below meth c (MQ below (qI D vwCl (tyM ca) (wdM ad ca) A Rm) args s 0 0 A) D vwCl A 7 0 0 (wdM ad ca S) 82 [(0, .ref (ad 0)), (1, .int x1), (2, .int x2), (3, .int x3), (4, .int x4), (5, .int o)] []) → Vj p l e rm_MX_hasAll s m args below meth c (MQ below (qI D vwCl (tyM ca) (wdM ad ca) A Rm) args s 0 0 A) D vwCl A 7 0 0 (wdM ad ca S) 33 [(0, .ref (ad 0)), (1, .int x1), (2, .int x2), (3, .int x3), (4, .int x4), (5, .int x5), (6, .int x6)] [] := by
  intro n
  induction n with
  | zero => intro x5 x6 o hf; exact nomatch (show none = some o from hf)
  | succ n ih =>
    intro x5 x6 o hf hx
    rw [L_MX_hasAll_33] at hf
    refine v_iload g dk_1_hasAll_33 6 rfl (pc' := 35) rfl ?_
    refine v_bipush (v := 6) g dk_1_hasAll_35 (by decide) (pc' := 37) rfl ?_
    refine v_iload_n g dk_1_hasAll_37 1 rfl rfl (pc' := 38) rfl ?_
    refine v_imul g dk_1_hasAll_38 (pc' := 39) rfl ?_
    refine v_aload_n g dk_1_hasAll_39 0 rfl rfl (pc' := 40) rfl ?_
    refine gfM_X_28 g hK dk_1_hasAll_40 (pc' := 43) rfl ?_
    refine v_iload_n g dk_1_hasAll_43 1 rfl rfl (pc' := 44) rfl ?_
    obtain ⟨hb2, hf⟩ := grd hf
    refine alM_7 g hK hb2 dk_1_hasAll_44 (pc' := 45) rfl ?_
    refine v_iadd g dk_1_hasAll_45 (pc' := 46) rfl ?_
    refine v_icmp_ge (tgt := 82) (pc' := 49) g dk_1_hasAll_46 (by decide) rfl (fun hc => ?_) (fun hc => ?_)
    · replace hf := ifT hc hf
      refine v_sub [0, 1, 2, 3, 4, 5] rfl ?_
      have e9 := Option.some.inj hf
      subst e9
      exact hx
    · replace hf := ifF hc hf
      refine v_iload g dk_1_hasAll_49 5 rfl (pc' := 51) rfl ?_
      refine v_if_ne (tgt := 69) (pc' := 54) g dk_1_hasAll_51 (by decide) rfl (fun hc => ?_) (fun hc => ?_)
      · replace hf := ifF hc hf
        refine v_iconst (v := 1) g dk_1_hasAll_69 (by decide) (pc' := 70) rfl ?_
        refine v_goto (tgt := 74) g dk_1_hasAll_70 (by decide) ?_
        refine v_istore (lv' := [(5, .int 1), (0, .ref (ad 0)), (1, .int x1), (2, .int x2), (3, .int x3), (4, .int x4), (6, .int x6)]) g dk_1_hasAll_74 (by decide) rfl (pc' := 76) rfl ?_
        refine v_iinc (j := 6) (v := x6 + 1) (lv' := [(6, .int (x6 + 1)), (5, .int 1), (0, .ref (ad 0)), (1, .int x1), (2, .int x2), (3, .int x3), (4, .int x4)]) g dk_1_hasAll_76 rfl rfl (by decide) rfl (pc' := 79) rfl ?_
        refine v_goto (tgt := 33) g dk_1_hasAll_79 (by decide) ?_
        refine v_sub [2, 3, 4, 5, 6, 1, 0] rfl ?_
        exact ih 1 (x6 + 1) o hf hx
      · replace hf := ifT hc hf
        refine v_aload_n g dk_1_hasAll_54 0 rfl rfl (pc' := 55) rfl ?_
        refine v_iload g dk_1_hasAll_55 6 rfl (pc' := 57) rfl ?_
        obtain ⟨q3, hq, hf⟩ := bnd hf
        refine v_callV_i (As := [.int x6]) (rest := []) (r := q3) (S1 := S) g hK hA (c_MX_about hq) (kcM_X_132 g.2.2.2.2 rfl rfl (Nat.le_of_ble_eq_true rfl) (Nat.le_of_ble_eq_true rfl)) (ci := 1) (q0 := 0) rfl rfl rfl rfl rfl (Nat.le_of_ble_eq_true rfl) dk_1_hasAll_57 (Nat.zero_le _) (Nat.zero_le _) (pc' := 60) rfl ?_
        refine v_aload_n g dk_1_hasAll_60 0 rfl rfl (pc' := 61) rfl ?_
        refine v_iload g dk_1_hasAll_61 4 rfl (pc' := 63) rfl ?_
        obtain ⟨q4, hq, hf⟩ := bnd hf
        refine v_callV_i (As := [.int x4]) (rest := [.int q3]) (r := q4) (S1 := S) g hK hA (c_MX_about hq) (kcM_X_132 g.2.2.2.2 rfl rfl (Nat.le_of_ble_eq_true rfl) (Nat.le_of_ble_eq_true rfl)) (ci := 1) (q0 := 0) rfl rfl rfl rfl rfl (Nat.le_of_ble_eq_true rfl) dk_1_hasAll_63 (Nat.zero_le _) (Nat.zero_le _) (pc' := 66) rfl ?_
        refine v_icmp_ne (tgt := 73) (pc' := 69) g dk_1_hasAll_66 (by decide) rfl (fun hc => ?_) (fun hc => ?_)
        · replace hf := ifF hc hf
          refine v_iconst (v := 0) g dk_1_hasAll_73 (by decide) (pc' := 74) rfl ?_
          refine v_istore (lv' := [(5, .int 0), (0, .ref (ad 0)), (1, .int x1), (2, .int x2), (3, .int x3), (4, .int x4), (6, .int x6)]) g dk_1_hasAll_74 (by decide) rfl (pc' := 76) rfl ?_
          refine v_iinc (j := 6) (v := x6 + 1) (lv' := [(6, .int (x6 + 1)), (5, .int 0), (0, .ref (ad 0)), (1, .int x1), (2, .int x2), (3, .int x3), (4, .int x4)]) g dk_1_hasAll_76 rfl rfl (by decide) rfl (pc' := 79) rfl ?_
          refine v_goto (tgt := 33) g dk_1_hasAll_79 (by decide) ?_
          refine v_sub [2, 3, 4, 5, 6, 1, 0] rfl ?_
          exact ih 0 (x6 + 1) o hf hx
        · replace hf := ifT hc hf
          refine v_iconst (v := 1) g dk_1_hasAll_69 (by decide) (pc' := 70) rfl ?_
          refine v_goto (tgt := 74) g dk_1_hasAll_70 (by decide) ?_
          refine v_istore (lv' := [(5, .int 1), (0, .ref (ad 0)), (1, .int x1), (2, .int x2), (3, .int x3), (4, .int x4), (6, .int x6)]) g dk_1_hasAll_74 (by decide) rfl (pc' := 76) rfl ?_
          refine v_iinc (j := 6) (v := x6 + 1) (lv' := [(6, .int (x6 + 1)), (5, .int 1), (0, .ref (ad 0)), (1, .int x1), (2, .int x2), (3, .int x3), (4, .int x4)]) g dk_1_hasAll_76 rfl rfl (by decide) rfl (pc' := 79) rfl ?_
          refine v_goto (tgt := 33) g dk_1_hasAll_79 (by decide) ?_
          refine v_sub [2, 3, 4, 5, 6, 1, 0] rfl ?_
          exact ih 1 (x6 + 1) o hf hx
def L_MX_hasAll_8 (S : StM) (x1 : Int32) (x2 : Int32) : Nat → Int32 → Int32 → Option (Int32)
  | 0, _, _ => none
  | n + 1, x3, x4 =>
    if inb x2 40 = true then if (((6 : Int32) * x2) + (gA S 6 x2.toNatClampNeg)) ≤ x4 then some x3
    else (L_MX_hasAll_33 S x1 x2 x3 x4 100 0 ((6 : Int32) * x1)).bind fun y6 =>
    if x3 = 0 then L_MX_hasAll_8 S x1 x2 n 0 (x4 + 1)
    else if y6 = 0 then L_MX_hasAll_8 S x1 x2 n 0 (x4 + 1)
    else L_MX_hasAll_8 S x1 x2 n 1 (x4 + 1) else none
set_option maxHeartbeats 4000000 in
set_option maxRecDepth 100000 in
theorem w_MX_hasAll_8 {p : Program} {l : Launch} {e : Env} {s : State} {m : MethodId} {args : Array Value} {below : List Frame} {meth : Method} {c : Code} {A : Nat → Prop} {D : va_G} {ad : Nat → Nat} {ca : Nat → ClassId} {Rm : Int32 × StM} {S : StM} {x1 : Int32} {x2 : Int32} (g : CallFix p m c bk_1_hasAll 7 s args tb Rk_1) (hr : meth.sig.returnType = some .boolean) (hlk : meth.locks = false) (hK : va_K D vwCl (tyM ca) s) (hA : ∀ q, s.heap.size ≤ q → A q) : ∀ (n : Nat) (x3 : Int32) (x4 : Int32) (o : Int32), L_MX_hasAll_8 S x1 x2 n x3 x4 = some o → (Vj p l e rm_MX_hasAll s m args below meth c (MQ below (qI D vwCl (tyM ca) (wdM ad ca) A Rm) args s 0 0 A) D vwCl A 7 0 0 (wdM ad ca S) 103 [(3, .int o)] []) → Vj p l e rm_MX_hasAll s m args below meth c (MQ below (qI D vwCl (tyM ca) (wdM ad ca) A Rm) args s 0 0 A) D vwCl A 7 0 0 (wdM ad ca S) 8 [(0, .ref (ad 0)), (1, .int x1), (2, .int x2), (3, .int x3), (4, .int x4)] [] := by
  intro n
  induction n with
  | zero => intro x3 x4 o hf; exact nomatch (show none = some o from hf)
  | succ n ih =>
    intro x3 x4 o hf hx
    rw [L_MX_hasAll_8] at hf
    refine v_iload g dk_1_hasAll_8 4 rfl (pc' := 10) rfl ?_
    refine v_bipush (v := 6) g dk_1_hasAll_10 (by decide) (pc' := 12) rfl ?_
    refine v_iload_n g dk_1_hasAll_12 2 rfl rfl (pc' := 13) rfl ?_
    refine v_imul g dk_1_hasAll_13 (pc' := 14) rfl ?_
    refine v_aload_n g dk_1_hasAll_14 0 rfl rfl (pc' := 15) rfl ?_
    refine gfM_X_28 g hK dk_1_hasAll_15 (pc' := 18) rfl ?_
    refine v_iload_n g dk_1_hasAll_18 2 rfl rfl (pc' := 19) rfl ?_
    obtain ⟨hb1, hf⟩ := grd hf
    refine alM_7 g hK hb1 dk_1_hasAll_19 (pc' := 20) rfl ?_
    refine v_iadd g dk_1_hasAll_20 (pc' := 21) rfl ?_
    refine v_icmp_ge (tgt := 103) (pc' := 24) g dk_1_hasAll_21 (by decide) rfl (fun hc => ?_) (fun hc => ?_)
    · replace hf := ifT hc hf
      refine v_sub [3] rfl ?_
      have e9 := Option.some.inj hf
      subst e9
      exact hx
    · replace hf := ifF hc hf
      refine v_iconst (v := 0) g dk_1_hasAll_24 (by decide) (pc' := 25) rfl ?_
      refine v_istore (lv' := [(5, .int 0), (0, .ref (ad 0)), (1, .int x1), (2, .int x2), (3, .int x3), (4, .int x4)]) g dk_1_hasAll_25 (by decide) rfl (pc' := 27) rfl ?_
      refine v_bipush (v := 6) g dk_1_hasAll_27 (by decide) (pc' := 29) rfl ?_
      refine v_iload_n g dk_1_hasAll_29 2 rfl rfl (pc' := 30) rfl ?_
      refine v_imul g dk_1_hasAll_30 (pc' := 31) rfl ?_
      refine v_istore (lv' := [(6, .int ((6 : Int32) * x1)), (5, .int 0), (0, .ref (ad 0)), (1, .int x1), (2, .int x2), (3, .int x3), (4, .int x4)]) g dk_1_hasAll_31 (by decide) rfl (pc' := 33) rfl ?_
      refine v_sub [2, 3, 4, 5, 6, 1, 0] rfl ?_
      obtain ⟨y6, hL, hf⟩ := bnd hf
      refine w_MX_hasAll_33 g hr hlk hK hA 100 0 ((6 : Int32) * x1) _ hL ?_
      refine v_iload_n g dk_1_hasAll_82 3 rfl rfl (pc' := 83) rfl ?_
      refine v_if_eq (tgt := 95) (pc' := 86) g dk_1_hasAll_83 (by decide) rfl (fun hc => ?_) (fun hc => ?_)
      · replace hf := ifT hc hf
        refine v_iconst (v := 0) g dk_1_hasAll_95 (by decide) (pc' := 96) rfl ?_
        refine v_istore_n (lv' := [(3, .int 0), (0, .ref (ad 0)), (1, .int x1), (2, .int x2), (4, .int x4), (5, .int y6)]) g dk_1_hasAll_96 rfl (by decide) rfl (pc' := 97) rfl ?_
        refine v_iinc (j := 4) (v := x4 + 1) (lv' := [(4, .int (x4 + 1)), (3, .int 0), (0, .ref (ad 0)), (1, .int x1), (2, .int x2), (5, .int y6)]) g dk_1_hasAll_97 rfl rfl (by decide) rfl (pc' := 100) rfl ?_
        refine v_goto (tgt := 8) g dk_1_hasAll_100 (by decide) ?_
        refine v_sub [2, 3, 4, 1, 0] rfl ?_
        exact ih 0 (x4 + 1) o hf hx
      · replace hf := ifF hc hf
        refine v_iload g dk_1_hasAll_86 5 rfl (pc' := 88) rfl ?_
        refine v_if_eq (tgt := 95) (pc' := 91) g dk_1_hasAll_88 (by decide) rfl (fun hc => ?_) (fun hc => ?_)
        · replace hf := ifT hc hf
          refine v_iconst (v := 0) g dk_1_hasAll_95 (by decide) (pc' := 96) rfl ?_
          refine v_istore_n (lv' := [(3, .int 0), (0, .ref (ad 0)), (1, .int x1), (2, .int x2), (4, .int x4), (5, .int y6)]) g dk_1_hasAll_96 rfl (by decide) rfl (pc' := 97) rfl ?_
          refine v_iinc (j := 4) (v := x4 + 1) (lv' := [(4, .int (x4 + 1)), (3, .int 0), (0, .ref (ad 0)), (1, .int x1), (2, .int x2), (5, .int y6)]) g dk_1_hasAll_97 rfl rfl (by decide) rfl (pc' := 100) rfl ?_
          refine v_goto (tgt := 8) g dk_1_hasAll_100 (by decide) ?_
          refine v_sub [2, 3, 4, 1, 0] rfl ?_
          exact ih 0 (x4 + 1) o hf hx
        · replace hf := ifF hc hf
          refine v_iconst (v := 1) g dk_1_hasAll_91 (by decide) (pc' := 92) rfl ?_
          refine v_goto (tgt := 96) g dk_1_hasAll_92 (by decide) ?_
          refine v_istore_n (lv' := [(3, .int 1), (0, .ref (ad 0)), (1, .int x1), (2, .int x2), (4, .int x4), (5, .int y6)]) g dk_1_hasAll_96 rfl (by decide) rfl (pc' := 97) rfl ?_
          refine v_iinc (j := 4) (v := x4 + 1) (lv' := [(4, .int (x4 + 1)), (3, .int 1), (0, .ref (ad 0)), (1, .int x1), (2, .int x2), (5, .int y6)]) g dk_1_hasAll_97 rfl rfl (by decide) rfl (pc' := 100) rfl ?_
          refine v_goto (tgt := 8) g dk_1_hasAll_100 (by decide) ?_
          refine v_sub [2, 3, 4, 1, 0] rfl ?_
          exact ih 1 (x4 + 1) o hf hx
def m_MX_hasAll (S : StM) (x1 : Int32) (x2 : Int32) : Option Int32 :=
  (L_MX_hasAll_8 S x1 x2 100 1 ((6 : Int32) * x2)).bind fun y8 =>
    if isB y8 = true then some y8 else none
set_option maxHeartbeats 4000000 in
set_option maxRecDepth 100000 in
theorem c_MX_hasAll {l : Launch} {D : va_G} {ad : Nat → Nat} {ca : Nat → ClassId} {S : StM} {x1 : Int32} {x2 : Int32} {r : Int32} (hf : m_MX_hasAll S x1 x2 = some r) : KIM l D ad ca yk_1_hasAll (.code yk_1_hasAll bk_1_hasAll 7 (some .boolean) :: tb) rm_MX_hasAll [.ref (ad 0), .int x1, .int x2] S (r, S) := by
  refine met_z (by decide) (Nat.le_of_ble_eq_true rfl) (fun p e s m below meth c A g hr hlk hK hA => ?_)
  replace g : CallFix p m c bk_1_hasAll 7 s _ tb Rk_1 := g
  refine v_lv (lv' := [(0, .ref (ad 0)), (1, .int x1), (2, .int x2)]) rfl ?_
  unfold m_MX_hasAll at hf
  refine v_iconst (v := 1) g dk_1_hasAll_0 (by decide) (pc' := 1) rfl ?_
  refine v_istore_n (lv' := [(3, .int 1), (0, .ref (ad 0)), (1, .int x1), (2, .int x2)]) g dk_1_hasAll_1 rfl (by decide) rfl (pc' := 2) rfl ?_
  refine v_bipush (v := 6) g dk_1_hasAll_2 (by decide) (pc' := 4) rfl ?_
  refine v_iload_n g dk_1_hasAll_4 3 rfl rfl (pc' := 5) rfl ?_
  refine v_imul g dk_1_hasAll_5 (pc' := 6) rfl ?_
  refine v_istore (lv' := [(4, .int ((6 : Int32) * x2)), (3, .int 1), (0, .ref (ad 0)), (1, .int x1), (2, .int x2)]) g dk_1_hasAll_6 (by decide) rfl (pc' := 8) rfl ?_
  refine v_sub [2, 3, 4, 1, 0] rfl ?_
  obtain ⟨y8, hL, hf⟩ := bnd hf
  refine w_MX_hasAll_8 g hr hlk hK hA 100 1 ((6 : Int32) * x2) _ hL ?_
  refine v_iload_n g dk_1_hasAll_103 0 rfl rfl (pc' := 104) rfl ?_
  obtain ⟨hz, hf⟩ := grd hf
  exact v_zret g hr hlk hK hz (pinj hf) dk_1_hasAll_104
abbrev rm_MX_isSpecial : Room := { frames := 4, cells := 0, slots := 0, locals := 94 }
def m_MX_isSpecial (S : StM) (x1 : Int32) (x2 : Int32) : Option Int32 :=
  (m_MX_hasAll S x1 x2).bind fun q1 =>
    if q1 = 0 then some 0
    else (m_MX_hasAll S x2 x1).bind fun q2 =>
    if q2 = 0 then some 1
    else some 0
set_option maxHeartbeats 4000000 in
set_option maxRecDepth 100000 in
theorem c_MX_isSpecial {l : Launch} {D : va_G} {ad : Nat → Nat} {ca : Nat → ClassId} {S : StM} {x1 : Int32} {x2 : Int32} {r : Int32} (hf : m_MX_isSpecial S x1 x2 = some r) : KIM l D ad ca yk_1_isSpecial (.code yk_1_isSpecial bk_1_isSpecial 3 (some .boolean) :: tb) rm_MX_isSpecial [.ref (ad 0), .int x1, .int x2] S (r, S) := by
  refine met_z (by decide) (Nat.le_of_ble_eq_true rfl) (fun p e s m below meth c A g hr hlk hK hA => ?_)
  replace g : CallFix p m c bk_1_isSpecial 3 s _ tb Rk_1 := g
  refine v_lv (lv' := [(0, .ref (ad 0)), (1, .int x1), (2, .int x2)]) rfl ?_
  unfold m_MX_isSpecial at hf
  refine v_aload_n g dk_1_isSpecial_0 0 rfl rfl (pc' := 1) rfl ?_
  refine v_iload_n g dk_1_isSpecial_1 1 rfl rfl (pc' := 2) rfl ?_
  refine v_iload_n g dk_1_isSpecial_2 2 rfl rfl (pc' := 3) rfl ?_
  obtain ⟨q1, hq, hf⟩ := bnd hf
  refine v_callV_i (As := [.int x1, .int x2]) (rest := []) (r := q1) (S1 := S) g hK hA (c_MX_hasAll hq) (kcM_X_135 g.2.2.2.2 rfl rfl (Nat.le_of_ble_eq_true rfl) (Nat.le_of_ble_eq_true rfl)) (ci := 1) (q0 := 0) rfl rfl rfl rfl rfl (Nat.le_of_ble_eq_true rfl) dk_1_isSpecial_3 (Nat.zero_le _) (Nat.zero_le _) (pc' := 6) rfl ?_
  refine v_if_eq (tgt := 22) (pc' := 9) g dk_1_isSpecial_6 (by decide) rfl (fun hc => ?_) (fun hc => ?_)
  · replace hf := ifT hc hf
    refine v_iconst (v := 0) g dk_1_isSpecial_22 (by decide) (pc' := 23) rfl ?_
    exact v_zret g hr hlk hK rfl (pinj hf) dk_1_isSpecial_23
  · replace hf := ifF hc hf
    refine v_aload_n g dk_1_isSpecial_9 0 rfl rfl (pc' := 10) rfl ?_
    refine v_iload_n g dk_1_isSpecial_10 2 rfl rfl (pc' := 11) rfl ?_
    refine v_iload_n g dk_1_isSpecial_11 1 rfl rfl (pc' := 12) rfl ?_
    obtain ⟨q2, hq, hf⟩ := bnd hf
    refine v_callV_i (As := [.int x2, .int x1]) (rest := []) (r := q2) (S1 := S) g hK hA (c_MX_hasAll hq) (kcM_X_135 g.2.2.2.2 rfl rfl (Nat.le_of_ble_eq_true rfl) (Nat.le_of_ble_eq_true rfl)) (ci := 1) (q0 := 0) rfl rfl rfl rfl rfl (Nat.le_of_ble_eq_true rfl) dk_1_isSpecial_12 (Nat.zero_le _) (Nat.zero_le _) (pc' := 15) rfl ?_
    refine v_if_ne (tgt := 22) (pc' := 18) g dk_1_isSpecial_15 (by decide) rfl (fun hc => ?_) (fun hc => ?_)
    · replace hf := ifF hc hf
      refine v_iconst (v := 0) g dk_1_isSpecial_22 (by decide) (pc' := 23) rfl ?_
      exact v_zret g hr hlk hK rfl (pinj hf) dk_1_isSpecial_23
    · replace hf := ifT hc hf
      refine v_iconst (v := 1) g dk_1_isSpecial_18 (by decide) (pc' := 19) rfl ?_
      refine v_goto (tgt := 23) g dk_1_isSpecial_19 (by decide) ?_
      exact v_zret g hr hlk hK rfl (pinj hf) dk_1_isSpecial_23
