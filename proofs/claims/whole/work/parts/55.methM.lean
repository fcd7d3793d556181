abbrev rm_MX_change : Room := { frames := 1, cells := 0, slots := 0, locals := 21 }
def m_MX_change (S : StM) (x1 : Int32) (x2 : Int32) (x3 : Int32) : Option (Int32 × StM) :=
  (m_MX_in S x1 (gI S 6)).bind fun q1 =>
    if q1 = 0 then some (0, S)
    else (m_MX_in S x2 (gI S 0)).bind fun q2 =>
    if q2 = 0 then some (0, S)
    else if (x3 &&& (255 : Int32)) = 0 then some (0, S)
    else if inb x1 40 = true then if (gA S 21 x1.toNatClampNeg) = 2 then some (0, S)
    else if inb (((2 : Int32) * x1) + (gA S 21 x1.toNatClampNeg)) 80 = true then some (1, tA (tA (tA S 22 (((2 : Int32) * x1) + (gA S 21 x1.toNatClampNeg)) x2) 23 (((2 : Int32) * x1) + (gA S 21 x1.toNatClampNeg)) (x3 &&& (255 : Int32))) 21 x1 ((gA S 21 x1.toNatClampNeg) + (1 : Int32))) else none else none
set_option maxHeartbeats 4000000 in
set_option maxRecDepth 100000 in
theorem c_MX_change {l : Launch} {D : va_G} {ad : Nat → Nat} {ca : Nat → ClassId} {S : StM} {x1 : Int32} {x2 : Int32} {x3 : Int32} {r : Int32 × StM} (hf : m_MX_change S x1 x2 x3 = some r) : KIM l D ad ca yk_1_change (.code yk_1_change bk_1_change 4 (some .boolean) :: tb) rm_MX_change [.ref (ad 0), .int x1, .int x2, .int x3] S r := by
  refine met_z (by decide) (Nat.le_of_ble_eq_true rfl) (fun p e s m below meth c A g hr hlk hK hA => ?_)
  replace g : CallFix p m c bk_1_change 4 s _ tb Rk_1 := g
  refine v_lv (lv' := [(0, .ref (ad 0)), (1, .int x1), (2, .int x2), (3, .int x3)]) rfl ?_
  unfold m_MX_change at hf
  refine v_iload_n g dk_1_change_0 1 rfl rfl (pc' := 1) rfl ?_
  refine v_aload_n g dk_1_change_1 0 rfl rfl (pc' := 2) rfl ?_
  refine gfM_X_195 g hK dk_1_change_2 (pc' := 5) rfl ?_
  obtain ⟨q1, hq, hf⟩ := bnd hf
  refine v_callS_i (As := [.int x1, .int (gI S 6)]) (rest := []) (r := q1) (S1 := S) g hK hA (c_MX_in hq) (kcM_X_102 g.2.2.2.2 rfl rfl (Nat.le_of_ble_eq_true rfl) (Nat.le_of_ble_eq_true rfl)) rfl rfl (Nat.le_of_ble_eq_true rfl) dk_1_change_5 (Nat.zero_le _) (Nat.zero_le _) (pc' := 8) rfl ?_
  refine v_if_eq (tgt := 40) (pc' := 11) g dk_1_change_8 (by decide) rfl (fun hc => ?_) (fun hc => ?_)
  · replace hf := ifT hc hf
    refine v_iconst (v := 0) g dk_1_change_40 (by decide) (pc' := 41) rfl ?_
    exact v_zret g hr hlk hK rfl (Option.some.inj hf) dk_1_change_41
  · replace hf := ifF hc hf
    refine v_iload_n g dk_1_change_11 2 rfl rfl (pc' := 12) rfl ?_
    refine v_aload_n g dk_1_change_12 0 rfl rfl (pc' := 13) rfl ?_
    refine gfM_X_99 g hK dk_1_change_13 (pc' := 16) rfl ?_
    obtain ⟨q2, hq, hf⟩ := bnd hf
    refine v_callS_i (As := [.int x2, .int (gI S 0)]) (rest := []) (r := q2) (S1 := S) g hK hA (c_MX_in hq) (kcM_X_102 g.2.2.2.2 rfl rfl (Nat.le_of_ble_eq_true rfl) (Nat.le_of_ble_eq_true rfl)) rfl rfl (Nat.le_of_ble_eq_true rfl) dk_1_change_16 (Nat.zero_le _) (Nat.zero_le _) (pc' := 19) rfl ?_
    refine v_if_eq (tgt := 40) (pc' := 22) g dk_1_change_19 (by decide) rfl (fun hc => ?_) (fun hc => ?_)
    · replace hf := ifT hc hf
      refine v_iconst (v := 0) g dk_1_change_40 (by decide) (pc' := 41) rfl ?_
      exact v_zret g hr hlk hK rfl (Option.some.inj hf) dk_1_change_41
    · replace hf := ifF hc hf
      refine v_iload_n g dk_1_change_22 3 rfl rfl (pc' := 23) rfl ?_
      refine v_sipush (v := 255) g dk_1_change_23 (by decide) (pc' := 26) rfl ?_
      refine v_iand g dk_1_change_26 (pc' := 27) rfl ?_
      refine v_if_eq (tgt := 40) (pc' := 30) g dk_1_change_27 (by decide) rfl (fun hc => ?_) (fun hc => ?_)
      · replace hf := ifT hc hf
        refine v_iconst (v := 0) g dk_1_change_40 (by decide) (pc' := 41) rfl ?_
        exact v_zret g hr hlk hK rfl (Option.some.inj hf) dk_1_change_41
      · replace hf := ifF hc hf
        refine v_aload_n g dk_1_change_30 0 rfl rfl (pc' := 31) rfl ?_
        refine gfM_X_74 g hK dk_1_change_31 (pc' := 34) rfl ?_
        refine v_iload_n g dk_1_change_34 1 rfl rfl (pc' := 35) rfl ?_
        obtain ⟨hb3, hf⟩ := grd hf
        refine alM_22 g hK hb3 dk_1_change_35 (pc' := 36) rfl ?_
        refine v_iconst (v := 2) g dk_1_change_36 (by decide) (pc' := 37) rfl ?_
        refine v_icmp_ne (tgt := 42) (pc' := 40) g dk_1_change_37 (by decide) rfl (fun hc => ?_) (fun hc => ?_)
        · replace hf := ifF hc hf
          refine v_aload_n g dk_1_change_42 0 rfl rfl (pc' := 43) rfl ?_
          refine gfM_X_77 g hK dk_1_change_43 (pc' := 46) rfl ?_
          refine v_iconst (v := 2) g dk_1_change_46 (by decide) (pc' := 47) rfl ?_
          refine v_iload_n g dk_1_change_47 1 rfl rfl (pc' := 48) rfl ?_
          refine v_imul g dk_1_change_48 (pc' := 49) rfl ?_
          refine v_aload_n g dk_1_change_49 0 rfl rfl (pc' := 50) rfl ?_
          refine gfM_X_74 g hK dk_1_change_50 (pc' := 53) rfl ?_
          refine v_iload_n g dk_1_change_53 1 rfl rfl (pc' := 54) rfl ?_
          refine alM_22 g hK hb3 dk_1_change_54 (pc' := 55) rfl ?_
          refine v_iadd g dk_1_change_55 (pc' := 56) rfl ?_
          refine v_iload_n g dk_1_change_56 2 rfl rfl (pc' := 57) rfl ?_
          obtain ⟨hb4, hf⟩ := grd hf
          refine asM_23 g hK hb4 dk_1_change_57 (pc' := 58) rfl ?_
          refine v_aload_n g dk_1_change_58 0 rfl rfl (pc' := 59) rfl ?_
          refine gfM_X_80 g hK dk_1_change_59 (pc' := 62) rfl ?_
          refine v_iconst (v := 2) g dk_1_change_62 (by decide) (pc' := 63) rfl ?_
          refine v_iload_n g dk_1_change_63 1 rfl rfl (pc' := 64) rfl ?_
          refine v_imul g dk_1_change_64 (pc' := 65) rfl ?_
          refine v_aload_n g dk_1_change_65 0 rfl rfl (pc' := 66) rfl ?_
          refine gfM_X_74 g hK dk_1_change_66 (pc' := 69) rfl ?_
          refine v_iload_n g dk_1_change_69 1 rfl rfl (pc' := 70) rfl ?_
          refine alM_22 g hK hb3 dk_1_change_70 (pc' := 71) rfl ?_
          refine v_iadd g dk_1_change_71 (pc' := 72) rfl ?_
          refine v_iload_n g dk_1_change_72 3 rfl rfl (pc' := 73) rfl ?_
          refine v_sipush (v := 255) g dk_1_change_73 (by decide) (pc' := 76) rfl ?_
          refine v_iand g dk_1_change_76 (pc' := 77) rfl ?_
          refine asM_24 g hK hb4 dk_1_change_77 (pc' := 78) rfl ?_
          refine v_aload_n g dk_1_change_78 0 rfl rfl (pc' := 79) rfl ?_
          refine gfM_X_74 g hK dk_1_change_79 (pc' := 82) rfl ?_
          refine v_iload_n g dk_1_change_82 1 rfl rfl (pc' := 83) rfl ?_
          refine v_dup2 g dk_1_change_83 rfl rfl (pc' := 84) rfl ?_
          refine alM_22 g hK hb3 dk_1_change_84 (pc' := 85) rfl ?_
          refine v_iconst (v := 1) g dk_1_change_85 (by decide) (pc' := 86) rfl ?_
          refine v_iadd g dk_1_change_86 (pc' := 87) rfl ?_
          refine asM_22 g hK hb3 dk_1_change_87 (pc' := 88) rfl ?_
          refine v_iconst (v := 1) g dk_1_change_88 (by decide) (pc' := 89) rfl ?_
          exact v_zret g hr hlk hK rfl (Option.some.inj hf) dk_1_change_89
        · replace hf := ifT hc hf
          refine v_iconst (v := 0) g dk_1_change_40 (by decide) (pc' := 41) rfl ?_
          exact v_zret g hr hlk hK rfl (Option.some.inj hf) dk_1_change_41
abbrev rm_MX_led : Room := { frames := 0, cells := 0, slots := 0, locals := 0 }
def L_MX_led_16 (S : StM) (x3 : Int32) : Nat → Int32 → Int32 → Option (Int32)
  | 0, _, _ => none
  | n + 1, x2, x4 =>
    if (gI S 6) ≤ x4 then some x2
    else if inb x4 40 = true then if ((x2 >>> ((gA S 19 x4.toNatClampNeg) &&& 31)) &&& (1 : Int32)) = 1 then L_MX_led_16 S x3 n (x2 ||| ((1 : Int32) <<< ((gA S 20 x4.toNatClampNeg) &&& 31))) (x4 + 1)
    else L_MX_led_16 S x3 n (x2 ||| (0 : Int32)) (x4 + 1) else none
set_option maxHeartbeats 4000000 in
set_option maxRecDepth 100000 in
theorem w_MX_led_16 {p : Program} {l : Launch} {e : Env} {s : State} {m : MethodId} {args : Array Value} {below : List Frame} {meth : Method} {c : Code} {A : Nat → Prop} {D : va_G} {ad : Nat → Nat} {ca : Nat → ClassId} {Rm : Int32 × StM} {S : StM} {x3 : Int32} (g : CallFix p m c bk_1_led 5 s args tb Rk_1) (hr : meth.sig.returnType = some .int) (hlk : meth.locks = false) (hK : va_K D vwCl (tyM ca) s) (hA : ∀ q, s.heap.size ≤ q → A q) : ∀ (n : Nat) (x2 : Int32) (x4 : Int32) (o : Int32), L_MX_led_16 S x3 n x2 x4 = some o → (Vj p l e rm_MX_led s m args below meth c (MQ below (qI D vwCl (tyM ca) (wdM ad ca) A Rm) args s 0 0 A) D vwCl A 5 0 0 (wdM ad ca S) 62 [(0, .ref (ad 0)), (2, .int o), (3, .int x3)] []) → Vj p l e rm_MX_led s m args below meth c (MQ below (qI D vwCl (tyM ca) (wdM ad ca) A Rm) args s 0 0 A) D vwCl A 5 0 0 (wdM ad ca S) 16 [(0, .ref (ad 0)), (2, .int x2), (3, .int x3), (4, .int x4)] [] := by
  intro n
  induction n with
  | zero => intro x2 x4 o hf; exact nomatch (show none = some o from hf)
  | succ n ih =>
    intro x2 x4 o hf hx
    rw [L_MX_led_16] at hf
    refine v_iload g dk_1_led_16 3 rfl (pc' := 18) rfl ?_
    refine v_aload_n g dk_1_led_18 0 rfl rfl (pc' := 19) rfl ?_
    refine gfM_X_195 g hK dk_1_led_19 (pc' := 22) rfl ?_
    refine v_icmp_ge (tgt := 62) (pc' := 25) g dk_1_led_22 (by decide) rfl (fun hc => ?_) (fun hc => ?_)
    · replace hf := ifT hc hf
      refine v_sub [0, 1, 2] rfl ?_
      have e9 := Option.some.inj hf
      subst e9
      exact hx
    · replace hf := ifF hc hf
      refine v_iload_n g dk_1_led_25 1 rfl rfl (pc' := 26) rfl ?_
      refine v_iload_n g dk_1_led_26 1 rfl rfl (pc' := 27) rfl ?_
      refine v_aload_n g dk_1_led_27 0 rfl rfl (pc' := 28) rfl ?_
      refine gfM_X_68 g hK dk_1_led_28 (pc' := 31) rfl ?_
      refine v_iload g dk_1_led_31 3 rfl (pc' := 33) rfl ?_
      obtain ⟨hb1, hf⟩ := grd hf
      refine alM_20 g hK hb1 dk_1_led_33 (pc' := 34) rfl ?_
      refine v_ishr g dk_1_led_34 (pc' := 35) rfl ?_
      refine v_iconst (v := 1) g dk_1_led_35 (by decide) (pc' := 36) rfl ?_
      refine v_iand g dk_1_led_36 (pc' := 37) rfl ?_
      refine v_iconst (v := 1) g dk_1_led_37 (by decide) (pc' := 38) rfl ?_
      refine v_icmp_ne (tgt := 53) (pc' := 41) g dk_1_led_38 (by decide) rfl (fun hc => ?_) (fun hc => ?_)
      · replace hf := ifF hc hf
        refine v_iconst (v := 0) g dk_1_led_53 (by decide) (pc' := 54) rfl ?_
        refine v_ior g dk_1_led_54 (pc' := 55) rfl ?_
        refine v_istore_n (lv' := [(2, .int (x2 ||| (0 : Int32))), (0, .ref (ad 0)), (3, .int x3), (4, .int x4)]) g dk_1_led_55 rfl (by decide) rfl (pc' := 56) rfl ?_
        refine v_iinc (j := 3) (v := x4 + 1) (lv' := [(4, .int (x4 + 1)), (2, .int (x2 ||| (0 : Int32))), (0, .ref (ad 0)), (3, .int x3)]) g dk_1_led_56 rfl rfl (by decide) rfl (pc' := 59) rfl ?_
        refine v_goto (tgt := 16) g dk_1_led_59 (by decide) ?_
        refine v_sub [2, 1, 3, 0] rfl ?_
        exact ih (x2 ||| (0 : Int32)) (x4 + 1) o hf hx
      · replace hf := ifT hc hf
        refine v_iconst (v := 1) g dk_1_led_41 (by decide) (pc' := 42) rfl ?_
        refine v_aload_n g dk_1_led_42 0 rfl rfl (pc' := 43) rfl ?_
        refine gfM_X_71 g hK dk_1_led_43 (pc' := 46) rfl ?_
        refine v_iload g dk_1_led_46 3 rfl (pc' := 48) rfl ?_
        refine alM_21 g hK hb1 dk_1_led_48 (pc' := 49) rfl ?_
        refine v_ishl g dk_1_led_49 (pc' := 50) rfl ?_
        refine v_goto (tgt := 54) g dk_1_led_50 (by decide) ?_
        refine v_ior g dk_1_led_54 (pc' := 55) rfl ?_
        refine v_istore_n (lv' := [(2, .int (x2 ||| ((1 : Int32) <<< ((gA S 20 x4.toNatClampNeg) &&& 31)))), (0, .ref (ad 0)), (3, .int x3), (4, .int x4)]) g dk_1_led_55 rfl (by decide) rfl (pc' := 56) rfl ?_
        refine v_iinc (j := 3) (v := x4 + 1) (lv' := [(4, .int (x4 + 1)), (2, .int (x2 ||| ((1 : Int32) <<< ((gA S 20 x4.toNatClampNeg) &&& 31)))), (0, .ref (ad 0)), (3, .int x3)]) g dk_1_led_56 rfl rfl (by decide) rfl (pc' := 59) rfl ?_
        refine v_goto (tgt := 16) g dk_1_led_59 (by decide) ?_
        refine v_sub [2, 1, 3, 0] rfl ?_
        exact ih (x2 ||| ((1 : Int32) <<< ((gA S 20 x4.toNatClampNeg) &&& 31))) (x4 + 1) o hf hx
def L_MX_led_6 (S : StM) : Nat → Int32 → Int32 → Option (Int32)
  | 0, _, _ => none
  | n + 1, x2, x3 =>
    if x2 = x3 then some x2
    else (L_MX_led_16 S x2 100 x2 0).bind fun y3 =>
    L_MX_led_6 S n y3 x2
set_option maxHeartbeats 4000000 in
set_option maxRecDepth 100000 in
theorem w_MX_led_6 {p : Program} {l : Launch} {e : Env} {s : State} {m : MethodId} {args : Array Value} {below : List Frame} {meth : Method} {c : Code} {A : Nat → Prop} {D : va_G} {ad : Nat → Nat} {ca : Nat → ClassId} {Rm : Int32 × StM} {S : StM} (g : CallFix p m c bk_1_led 5 s args tb Rk_1) (hr : meth.sig.returnType = some .int) (hlk : meth.locks = false) (hK : va_K D vwCl (tyM ca) s) (hA : ∀ q, s.heap.size ≤ q → A q) : ∀ (n : Nat) (x2 : Int32) (x3 : Int32) (o : Int32), L_MX_led_6 S n x2 x3 = some o → (Vj p l e rm_MX_led s m args below meth c (MQ below (qI D vwCl (tyM ca) (wdM ad ca) A Rm) args s 0 0 A) D vwCl A 5 0 0 (wdM ad ca S) 65 [(2, .int o)] []) → Vj p l e rm_MX_led s m args below meth c (MQ below (qI D vwCl (tyM ca) (wdM ad ca) A Rm) args s 0 0 A) D vwCl A 5 0 0 (wdM ad ca S) 6 [(0, .ref (ad 0)), (2, .int x2), (3, .int x3)] [] := by
  intro n
  induction n with
  | zero => intro x2 x3 o hf; exact nomatch (show none = some o from hf)
  | succ n ih =>
    intro x2 x3 o hf hx
    rw [L_MX_led_6] at hf
    refine v_iload_n g dk_1_led_6 1 rfl rfl (pc' := 7) rfl ?_
    refine v_iload_n g dk_1_led_7 2 rfl rfl (pc' := 8) rfl ?_
    refine v_icmp_eq (tgt := 65) (pc' := 11) g dk_1_led_8 (by decide) rfl (fun hc => ?_) (fun hc => ?_)
    · replace hf := ifT hc hf
      refine v_sub [1] rfl ?_
      have e9 := Option.some.inj hf
      subst e9
      exact hx
    · replace hf := ifF hc hf
      refine v_iload_n g dk_1_led_11 1 rfl rfl (pc' := 12) rfl ?_
      refine v_istore_n (lv' := [(3, .int x2), (0, .ref (ad 0)), (2, .int x2)]) g dk_1_led_12 rfl (by decide) rfl (pc' := 13) rfl ?_
      refine v_iconst (v := 0) g dk_1_led_13 (by decide) (pc' := 14) rfl ?_
      refine v_istore (lv' := [(4, .int 0), (3, .int x2), (0, .ref (ad 0)), (2, .int x2)]) g dk_1_led_14 (by decide) rfl (pc' := 16) rfl ?_
      refine v_sub [2, 3, 1, 0] rfl ?_
      obtain ⟨y3, hL, hf⟩ := bnd hf
      refine w_MX_led_16 g hr hlk hK hA 100 x2 0 _ hL ?_
      refine v_goto (tgt := 6) g dk_1_led_62 (by decide) ?_
      refine v_sub [0, 1, 2] rfl ?_
      exact ih y3 x2 o hf hx
def m_MX_led (S : StM) (x1 : Int32) : Option Int32 :=
  (L_MX_led_6 S 100 ((1 : Int32) <<< (x1 &&& 31)) 0).bind fun y5 =>
    some y5
set_option maxHeartbeats 4000000 in
set_option maxRecDepth 100000 in
theorem c_MX_led {l : Launch} {D : va_G} {ad : Nat → Nat} {ca : Nat → ClassId} {S : StM} {x1 : Int32} {r : Int32} (hf : m_MX_led S x1 = some r) : KIM l D ad ca yk_1_led (.code yk_1_led bk_1_led 5 (some .int) :: tb) rm_MX_led [.ref (ad 0), .int x1] S (r, S) := by
  refine met_i (by decide) (Nat.le_of_ble_eq_true rfl) (fun p e s m below meth c A g hr hlk hK hA => ?_)
  replace g : CallFix p m c bk_1_led 5 s _ tb Rk_1 := g
  refine v_lv (lv' := [(0, .ref (ad 0)), (1, .int x1)]) rfl ?_
  unfold m_MX_led at hf
  refine v_iconst (v := 1) g dk_1_led_0 (by decide) (pc' := 1) rfl ?_
  refine v_iload_n g dk_1_led_1 1 rfl rfl (pc' := 2) rfl ?_
  refine v_ishl g dk_1_led_2 (pc' := 3) rfl ?_
  refine v_istore_n (lv' := [(2, .int ((1 : Int32) <<< (x1 &&& 31))), (0, .ref (ad 0)), (1, .int x1)]) g dk_1_led_3 rfl (by decide) rfl (pc' := 4) rfl ?_
  refine v_iconst (v := 0) g dk_1_led_4 (by decide) (pc' := 5) rfl ?_
  refine v_istore_n (lv' := [(3, .int 0), (2, .int ((1 : Int32) <<< (x1 &&& 31))), (0, .ref (ad 0)), (1, .int x1)]) g dk_1_led_5 rfl (by decide) rfl (pc' := 6) rfl ?_
  refine v_sub [2, 1, 0] rfl ?_
  obtain ⟨y5, hL, hf⟩ := bnd hf
  refine w_MX_led_6 g hr hlk hK hA 100 ((1 : Int32) <<< (x1 &&& 31)) 0 _ hL ?_
  refine v_iload_n g dk_1_led_65 0 rfl rfl (pc' := 66) rfl ?_
  exact v_iret g hr hlk hK  (pinj hf) dk_1_led_66
abbrev rm_MX_readBy : Room := { frames := 2, cells := 0, slots := 0, locals := 44 }
def L_MX_readBy_7 (S : StM) (x1 : Int32) : Nat → Int32 → Int32 → Option (Int32)
  | 0, _, _ => none
  | n + 1, x2, x3 =>
    if inb x1 40 = true then if (((6 : Int32) * x1) + (gA S 6 x1.toNatClampNeg)) ≤ x3 then some x2
    else if inb x3 240 = true then if (gA S 9 x3.toNatClampNeg) = 0 then (m_MX_baseOf S (gA S 7 x3.toNatClampNeg)).bind fun q3 =>
    if q3 = (-1) then L_MX_readBy_7 S x1 n (x2 ||| (0 : Int32)) (x3 + 1)
    else L_MX_readBy_7 S x1 n (x2 ||| ((1 : Int32) <<< (q3 &&& 31))) (x3 + 1)
    else if ((-1) : Int32) = (-1) then L_MX_readBy_7 S x1 n (x2 ||| (0 : Int32)) (x3 + 1)
    else L_MX_readBy_7 S x1 n (x2 ||| ((1 : Int32) <<< (((-1) : Int32) &&& 31))) (x3 + 1) else none else none
set_option maxHeartbeats 4000000 in
set_option maxRecDepth 100000 in
theorem w_MX_readBy_7 {p : Program} {l : Launch} {e : Env} {s : State} {m : MethodId} {args : Array Value} {below : List Frame} {meth : Method} {c : Code} {A : Nat → Prop} {D : va_G} {ad : Nat → Nat} {ca : Nat → ClassId} {Rm : Int32 × StM} {S : StM} {x1 : Int32} (g : CallFix p m c bk_1_readBy 5 s args tb Rk_1) (hr : meth.sig.returnType = some .int) (hlk : meth.locks = false) (hK : va_K D vwCl (tyM ca) s) (hA : ∀ q, s.heap.size ≤ q → A q) : ∀ (n : Nat) (x2 : Int32) (x3 : Int32) (o : Int32), L_MX_readBy_7 S x1 n x2 x3 = some o → (Vj p l e rm_MX_readBy s m args below meth c (MQ below (qI D vwCl (tyM ca) (wdM ad ca) A Rm) args s 0 0 A) D vwCl A 5 0 0 (wdM ad ca S) 70 [(2, .int o)] []) → Vj p l e rm_MX_readBy s m args below meth c (MQ below (qI D vwCl (tyM ca) (wdM ad ca) A Rm) args s 0 0 A) D vwCl A 5 0 0 (wdM ad ca S) 7 [(0, .ref (ad 0)), (1, .int x1), (2, .int x2), (3, .int x3)] [] := by
  intro n
  induction n with
  | zero => intro x2 x3 o hf; exact nomatch (show none = some o from hf)
  | succ n ih =>
    intro x2 x3 o hf hx
    rw [L_MX_readBy_7] at hf
    refine v_iload_n g dk_1_readBy_7 3 rfl rfl (pc' := 8) rfl ?_
    refine v_bipush (v := 6) g dk_1_readBy_8 (by decide) (pc' := 10) rfl ?_
    refine v_iload_n g dk_1_readBy_10 1 rfl rfl (pc' := 11) rfl ?_
    refine v_imul g dk_1_readBy_11 (pc' := 12) rfl ?_
    refine v_aload_n g dk_1_readBy_12 0 rfl rfl (pc' := 13) rfl ?_
    refine gfM_X_28 g hK dk_1_readBy_13 (pc' := 16) rfl ?_
    refine v_iload_n g dk_1_readBy_16 1 rfl rfl (pc' := 17) rfl ?_
    obtain ⟨hb1, hf⟩ := grd hf
    refine alM_7 g hK hb1 dk_1_readBy_17 (pc' := 18) rfl ?_
    refine v_iadd g dk_1_readBy_18 (pc' := 19) rfl ?_
    refine v_icmp_ge (tgt := 70) (pc' := 22) g dk_1_readBy_19 (by decide) rfl (fun hc => ?_) (fun hc => ?_)
    · replace hf := ifT hc hf
      refine v_sub [2] rfl ?_
      have e9 := Option.some.inj hf
      subst e9
      exact hx
    · replace hf := ifF hc hf
      refine v_aload_n g dk_1_readBy_22 0 rfl rfl (pc' := 23) rfl ?_
      refine gfM_X_37 g hK dk_1_readBy_23 (pc' := 26) rfl ?_
      refine v_iload_n g dk_1_readBy_26 3 rfl rfl (pc' := 27) rfl ?_
      obtain ⟨hb2, hf⟩ := grd hf
      refine alM_10 g hK hb2 dk_1_readBy_27 (pc' := 28) rfl ?_
      refine v_if_eq (tgt := 35) (pc' := 31) g dk_1_readBy_28 (by decide) rfl (fun hc => ?_) (fun hc => ?_)
      · replace hf := ifT hc hf
        refine v_aload_n g dk_1_readBy_35 0 rfl rfl (pc' := 36) rfl ?_
        refine v_aload_n g dk_1_readBy_36 0 rfl rfl (pc' := 37) rfl ?_
        refine gfM_X_31 g hK dk_1_readBy_37 (pc' := 40) rfl ?_
        refine v_iload_n g dk_1_readBy_40 3 rfl rfl (pc' := 41) rfl ?_
        refine alM_8 g hK hb2 dk_1_readBy_41 (pc' := 42) rfl ?_
        obtain ⟨q3, hq, hf⟩ := bnd hf
        refine v_callV_i (As := [.int (gA S 7 x3.toNatClampNeg)]) (rest := []) (r := q3) (S1 := S) g hK hA (c_MX_baseOf hq) (kcM_X_106 g.2.2.2.2 rfl rfl (Nat.le_of_ble_eq_true rfl) (Nat.le_of_ble_eq_true rfl)) (ci := 1) (q0 := 0) rfl rfl rfl rfl rfl (Nat.le_of_ble_eq_true rfl) dk_1_readBy_42 (Nat.zero_le _) (Nat.zero_le _) (pc' := 45) rfl ?_
        refine v_istore (lv' := [(4, .int q3), (0, .ref (ad 0)), (1, .int x1), (2, .int x2), (3, .int x3)]) g dk_1_readBy_45 (by decide) rfl (pc' := 47) rfl ?_
        refine v_iload_n g dk_1_readBy_47 3 rfl rfl (pc' := 48) rfl ?_
        refine v_iload g dk_1_readBy_48 0 rfl (pc' := 50) rfl ?_
        refine v_iconst (v := (-1)) g dk_1_readBy_50 (by decide) (pc' := 51) rfl ?_
        refine v_icmp_ne (tgt := 58) (pc' := 54) g dk_1_readBy_51 (by decide) rfl (fun hc => ?_) (fun hc => ?_)
        · replace hf := ifF hc hf
          refine v_iconst (v := 1) g dk_1_readBy_58 (by decide) (pc' := 59) rfl ?_
          refine v_iload g dk_1_readBy_59 0 rfl (pc' := 61) rfl ?_
          refine v_ishl g dk_1_readBy_61 (pc' := 62) rfl ?_
          refine v_ior g dk_1_readBy_62 (pc' := 63) rfl ?_
          refine v_istore_n (lv' := [(2, .int (x2 ||| ((1 : Int32) <<< (q3 &&& 31)))), (4, .int q3), (0, .ref (ad 0)), (1, .int x1), (3, .int x3)]) g dk_1_readBy_63 rfl (by decide) rfl (pc' := 64) rfl ?_
          refine v_iinc (j := 4) (v := x3 + 1) (lv' := [(3, .int (x3 + 1)), (2, .int (x2 ||| ((1 : Int32) <<< (q3 &&& 31)))), (4, .int q3), (0, .ref (ad 0)), (1, .int x1)]) g dk_1_readBy_64 rfl rfl (by decide) rfl (pc' := 67) rfl ?_
          refine v_goto (tgt := 7) g dk_1_readBy_67 (by decide) ?_
          refine v_sub [3, 4, 1, 0] rfl ?_
          exact ih (x2 ||| ((1 : Int32) <<< (q3 &&& 31))) (x3 + 1) o hf hx
        · replace hf := ifT hc hf
          refine v_iconst (v := 0) g dk_1_readBy_54 (by decide) (pc' := 55) rfl ?_
          refine v_goto (tgt := 62) g dk_1_readBy_55 (by decide) ?_
          refine v_ior g dk_1_readBy_62 (pc' := 63) rfl ?_
          refine v_istore_n (lv' := [(2, .int (x2 ||| (0 : Int32))), (4, .int q3), (0, .ref (ad 0)), (1, .int x1), (3, .int x3)]) g dk_1_readBy_63 rfl (by decide) rfl (pc' := 64) rfl ?_
          refine v_iinc (j := 4) (v := x3 + 1) (lv' := [(3, .int (x3 + 1)), (2, .int (x2 ||| (0 : Int32))), (4, .int q3), (0, .ref (ad 0)), (1, .int x1)]) g dk_1_readBy_64 rfl rfl (by decide) rfl (pc' := 67) rfl ?_
          refine v_goto (tgt := 7) g dk_1_readBy_67 (by decide) ?_
          refine v_sub [3, 4, 1, 0] rfl ?_
          exact ih (x2 ||| (0 : Int32)) (x3 + 1) o hf hx
      · replace hf := ifF hc hf
        refine v_iconst (v := (-1)) g dk_1_readBy_31 (by decide) (pc' := 32) rfl ?_
        refine v_goto (tgt := 45) g dk_1_readBy_32 (by decide) ?_
        refine v_istore (lv' := [(4, .int (-1)), (0, .ref (ad 0)), (1, .int x1), (2, .int x2), (3, .int x3)]) g dk_1_readBy_45 (by decide) rfl (pc' := 47) rfl ?_
        refine v_iload_n g dk_1_readBy_47 3 rfl rfl (pc' := 48) rfl ?_
        refine v_iload g dk_1_readBy_48 0 rfl (pc' := 50) rfl ?_
        refine v_iconst (v := (-1)) g dk_1_readBy_50 (by decide) (pc' := 51) rfl ?_
        refine v_icmp_ne (tgt := 58) (pc' := 54) g dk_1_readBy_51 (by decide) rfl (fun hc => ?_) (fun hc => ?_)
        · replace hf := ifF hc hf
          refine v_iconst (v := 1) g dk_1_readBy_58 (by decide) (pc' := 59) rfl ?_
          refine v_iload g dk_1_readBy_59 0 rfl (pc' := 61) rfl ?_
          refine v_ishl g dk_1_readBy_61 (pc' := 62) rfl ?_
          refine v_ior g dk_1_readBy_62 (pc' := 63) rfl ?_
          refine v_istore_n (lv' := [(2, .int (x2 ||| ((1 : Int32) <<< (((-1) : Int32) &&& 31)))), (4, .int (-1)), (0, .ref (ad 0)), (1, .int x1), (3, .int x3)]) g dk_1_readBy_63 rfl (by decide) rfl (pc' := 64) rfl ?_
          refine v_iinc (j := 4) (v := x3 + 1) (lv' := [(3, .int (x3 + 1)), (2, .int (x2 ||| ((1 : Int32) <<< (((-1) : Int32) &&& 31)))), (4, .int (-1)), (0, .ref (ad 0)), (1, .int x1)]) g dk_1_readBy_64 rfl rfl (by decide) rfl (pc' := 67) rfl ?_
          refine v_goto (tgt := 7) g dk_1_readBy_67 (by decide) ?_
          refine v_sub [3, 4, 1, 0] rfl ?_
          exact ih (x2 ||| ((1 : Int32) <<< (((-1) : Int32) &&& 31))) (x3 + 1) o hf hx
        · replace hf := ifT hc hf
          refine v_iconst (v := 0) g dk_1_readBy_54 (by decide) (pc' := 55) rfl ?_
          refine v_goto (tgt := 62) g dk_1_readBy_55 (by decide) ?_
          refine v_ior g dk_1_readBy_62 (pc' := 63) rfl ?_
          refine v_istore_n (lv' := [(2, .int (x2 ||| (0 : Int32))), (4, .int (-1)), (0, .ref (ad 0)), (1, .int x1), (3, .int x3)]) g dk_1_readBy_63 rfl (by decide) rfl (pc' := 64) rfl ?_
          refine v_iinc (j := 4) (v := x3 + 1) (lv' := [(3, .int (x3 + 1)), (2, .int (x2 ||| (0 : Int32))), (4, .int (-1)), (0, .ref (ad 0)), (1, .int x1)]) g dk_1_readBy_64 rfl rfl (by decide) rfl (pc' := 67) rfl ?_
          refine v_goto (tgt := 7) g dk_1_readBy_67 (by decide) ?_
          refine v_sub [3, 4, 1, 0] rfl ?_
          exact ih (x2 ||| (0 : Int32)) (x3 + 1) o hf hx
def m_MX_readBy (S : StM) (x1 : Int32) : Option Int32 :=
  (L_MX_readBy_7 S x1 100 0 ((6 : Int32) * x1)).bind fun y5 =>
    some y5
set_option maxHeartbeats 4000000 in
set_option maxRecDepth 100000 in
theorem c_MX_readBy {l : Launch} {D : va_G} {ad : Nat → Nat} {ca : Nat → ClassId} {S : StM} {x1 : Int32} {r : Int32} (hf : m_MX_readBy S x1 = some r) : KIM l D ad ca yk_1_readBy (.code yk_1_readBy bk_1_readBy 5 (some .int) :: tb) rm_MX_readBy [.ref (ad 0), .int x1] S (r, S) := by
  refine met_i (by decide) (Nat.le_of_ble_eq_true rfl) (fun p e s m below meth c A g hr hlk hK hA => ?_)
  replace g : CallFix p m c bk_1_readBy 5 s _ tb Rk_1 := g
  refine v_lv (lv' := [(0, .ref (ad 0)), (1, .int x1)]) rfl ?_
  unfold m_MX_readBy at hf
  refine v_iconst (v := 0) g dk_1_readBy_0 (by decide) (pc' := 1) rfl ?_
  refine v_istore_n (lv' := [(2, .int 0), (0, .ref (ad 0)), (1, .int x1)]) g dk_1_readBy_1 rfl (by decide) rfl (pc' := 2) rfl ?_
  refine v_bipush (v := 6) g dk_1_readBy_2 (by decide) (pc' := 4) rfl ?_
  refine v_iload_n g dk_1_readBy_4 2 rfl rfl (pc' := 5) rfl ?_
  refine v_imul g dk_1_readBy_5 (pc' := 6) rfl ?_
  refine v_istore_n (lv' := [(3, .int ((6 : Int32) * x1)), (2, .int 0), (0, .ref (ad 0)), (1, .int x1)]) g dk_1_readBy_6 rfl (by decide) rfl (pc' := 7) rfl ?_
  refine v_sub [2, 3, 1, 0] rfl ?_
  obtain ⟨y5, hL, hf⟩ := bnd hf
  refine w_MX_readBy_7 g hr hlk hK hA 100 0 ((6 : Int32) * x1) _ hL ?_
  refine v_iload_n g dk_1_readBy_70 0 rfl rfl (pc' := 71) rfl ?_
  exact v_iret g hr hlk hK  (pinj hf) dk_1_readBy_71
abbrev rm_MX_readAlone : Room := { frames := 3, cells := 0, slots := 0, locals := 68 }
def L_MX_readAlone_41 (S : StM) (x1 : Int32) (x3 : Int32) : Nat → Int32 → Int32 → Option (Int32)
  | 0, _, _ => none
  | n + 1, x2, x4 =>
    if inb x3 24 = true then if (((8 : Int32) * x3) + (gA S 11 x3.toNatClampNeg)) ≤ x4 then some x2
    else if (gA S 10 x3.toNatClampNeg) = x1 then if inb x4 192 = true then (m_MX_readBy S (gA S 12 x4.toNatClampNeg)).bind fun q5 =>
    L_MX_readAlone_41 S x1 x3 n (x2 ||| q5) (x4 + 1) else none
    else some x2 else none
set_option maxHeartbeats 4000000 in
set_option maxRecDepth 100000 in
theorem w_MX_readAlone_41 {p : Program} {l : Launch} {e : Env} {s : State} {m : MethodId} {args : Array Value} {below : List Frame} {meth : Method} {c : Code} {A : Nat → Prop} {D : va_G} {ad : Nat → Nat} {ca : Nat → ClassId} {Rm : Int32 × StM} {S : StM} {x1 : Int32} {x3 : Int32} (g : CallFix p m c bk_1_readAlone 5 s args tb Rk_1) (hr : meth.sig.returnType = some .int) (hlk : meth.locks = false) (hK : va_K D vwCl (tyM ca) s) (hA : ∀ q, s.heap.size ≤ q → A q) : ∀ (n : Nat) (x2 : Int32) (x4 : Int32) (o : Int32), L_MX_readAlone_41 S x1 x3 n x2 x4 = some o → (Vj p l e rm_MX_readAlone s m args below meth c (MQ below (qI D vwCl (tyM ca) (wdM ad ca) A Rm) args s 0 0 A) D vwCl A 5 0 0 (wdM ad ca S) 87 [(0, .ref (ad 0)), (1, .int x1), (2, .int o), (3, .int x3)] []) → Vj p l e rm_MX_readAlone s m args below meth c (MQ below (qI D vwCl (tyM ca) (wdM ad ca) A Rm) args s 0 0 A) D vwCl A 5 0 0 (wdM ad ca S) 41 [(0, .ref (ad 0)), (1, .int x1), (2, .int x2), (3, .int x3), (4, .int x4)] [] := by
  intro n
  induction n with
  | zero => intro x2 x4 o hf; exact nomatch (show none = some o from hf)
  | succ n ih =>
    intro x2 x4 o hf hx
    rw [L_MX_readAlone_41] at hf
    refine v_iload g dk_1_readAlone_41 4 rfl (pc' := 43) rfl ?_
    refine v_bipush (v := 8) g dk_1_readAlone_43 (by decide) (pc' := 45) rfl ?_
    refine v_iload_n g dk_1_readAlone_45 3 rfl rfl (pc' := 46) rfl ?_
    refine v_imul g dk_1_readAlone_46 (pc' := 47) rfl ?_
    refine v_aload_n g dk_1_readAlone_47 0 rfl rfl (pc' := 48) rfl ?_
    refine gfM_X_44 g hK dk_1_readAlone_48 (pc' := 51) rfl ?_
    refine v_iload_n g dk_1_readAlone_51 3 rfl rfl (pc' := 52) rfl ?_
    obtain ⟨hb3, hf⟩ := grd hf
    refine alM_12 g hK hb3 dk_1_readAlone_52 (pc' := 53) rfl ?_
    refine v_iadd g dk_1_readAlone_53 (pc' := 54) rfl ?_
    refine v_icmp_ge (tgt := 87) (pc' := 57) g dk_1_readAlone_54 (by decide) rfl (fun hc => ?_) (fun hc => ?_)
    · replace hf := ifT hc hf
      refine v_sub [0, 1, 2, 3] rfl ?_
      have e9 := Option.some.inj hf
      subst e9
      exact hx
    · replace hf := ifF hc hf
      refine v_aload_n g dk_1_readAlone_57 0 rfl rfl (pc' := 58) rfl ?_
      refine gfM_X_41 g hK dk_1_readAlone_58 (pc' := 61) rfl ?_
      refine v_iload_n g dk_1_readAlone_61 3 rfl rfl (pc' := 62) rfl ?_
      refine alM_11 g hK hb3 dk_1_readAlone_62 (pc' := 63) rfl ?_
      refine v_iload_n g dk_1_readAlone_63 1 rfl rfl (pc' := 64) rfl ?_
      refine v_icmp_ne (tgt := 87) (pc' := 67) g dk_1_readAlone_64 (by decide) rfl (fun hc => ?_) (fun hc => ?_)
      · replace hf := ifF hc hf
        refine v_sub [0, 1, 2, 3] rfl ?_
        have e9 := Option.some.inj hf
        subst e9
        exact hx
      · replace hf := ifT hc hf
        refine v_iload_n g dk_1_readAlone_67 2 rfl rfl (pc' := 68) rfl ?_
        refine v_aload_n g dk_1_readAlone_68 0 rfl rfl (pc' := 69) rfl ?_
        refine v_aload_n g dk_1_readAlone_69 0 rfl rfl (pc' := 70) rfl ?_
        refine gfM_X_47 g hK dk_1_readAlone_70 (pc' := 73) rfl ?_
        refine v_iload g dk_1_readAlone_73 4 rfl (pc' := 75) rfl ?_
        obtain ⟨hb4, hf⟩ := grd hf
        refine alM_13 g hK hb4 dk_1_readAlone_75 (pc' := 76) rfl ?_
        obtain ⟨q5, hq, hf⟩ := bnd hf
        refine v_callV_i (As := [.int (gA S 12 x4.toNatClampNeg)]) (rest := [.int x2]) (r := q5) (S1 := S) g hK hA (c_MX_readBy hq) (kcM_X_198 g.2.2.2.2 rfl rfl (Nat.le_of_ble_eq_true rfl) (Nat.le_of_ble_eq_true rfl)) (ci := 1) (q0 := 0) rfl rfl rfl rfl rfl (Nat.le_of_ble_eq_true rfl) dk_1_readAlone_76 (Nat.zero_le _) (Nat.zero_le _) (pc' := 79) rfl ?_
        refine v_ior g dk_1_readAlone_79 (pc' := 80) rfl ?_
        refine v_istore_n (lv' := [(2, .int (x2 ||| q5)), (0, .ref (ad 0)), (1, .int x1), (3, .int x3), (4, .int x4)]) g dk_1_readAlone_80 rfl (by decide) rfl (pc' := 81) rfl ?_
        refine v_iinc (j := 4) (v := x4 + 1) (lv' := [(4, .int (x4 + 1)), (2, .int (x2 ||| q5)), (0, .ref (ad 0)), (1, .int x1), (3, .int x3)]) g dk_1_readAlone_81 rfl rfl (by decide) rfl (pc' := 84) rfl ?_
        refine v_goto (tgt := 41) g dk_1_readAlone_84 (by decide) ?_
        refine v_sub [2, 3, 1, 4, 0] rfl ?_
        exact ih (x2 ||| q5) (x4 + 1) o hf hx
def L_MX_readAlone_27 (S : StM) (x1 : Int32) : Nat → Int32 → Int32 → Option (Int32)
  | 0, _, _ => none
  | n + 1, x2, x3 =>
    if (gI S 4) ≤ x3 then some x2
    else (L_MX_readAlone_41 S x1 x3 100 x2 ((8 : Int32) * x3)).bind fun y7 =>
    L_MX_readAlone_27 S x1 n y7 (x3 + 1)
set_option maxHeartbeats 4000000 in
set_option maxRecDepth 100000 in
theorem w_MX_readAlone_27 {p : Program} {l : Launch} {e : Env} {s : State} {m : MethodId} {args : Array Value} {below : List Frame} {meth : Method} {c : Code} {A : Nat → Prop} {D : va_G} {ad : Nat → Nat} {ca : Nat → ClassId} {Rm : Int32 × StM} {S : StM} {x1 : Int32} (g : CallFix p m c bk_1_readAlone 5 s args tb Rk_1) (hr : meth.sig.returnType = some .int) (hlk : meth.locks = false) (hK : va_K D vwCl (tyM ca) s) (hA : ∀ q, s.heap.size ≤ q → A q) : ∀ (n : Nat) (x2 : Int32) (x3 : Int32) (o : Int32), L_MX_readAlone_27 S x1 n x2 x3 = some o → (Vj p l e rm_MX_readAlone s m args below meth c (MQ below (qI D vwCl (tyM ca) (wdM ad ca) A Rm) args s 0 0 A) D vwCl A 5 0 0 (wdM ad ca S) 93 [(2, .int o)] []) → Vj p l e rm_MX_readAlone s m args below meth c (MQ below (qI D vwCl (tyM ca) (wdM ad ca) A Rm) args s 0 0 A) D vwCl A 5 0 0 (wdM ad ca S) 27 [(0, .ref (ad 0)), (1, .int x1), (2, .int x2), (3, .int x3)] [] := by
  intro n
  induction n with
  | zero => intro x2 x3 o hf; exact nomatch (show none = some o from hf)
  | succ n ih =>
    intro x2 x3 o hf hx
    rw [L_MX_readAlone_27] at hf
    refine v_iload_n g dk_1_readAlone_27 3 rfl rfl (pc' := 28) rfl ?_
    refine v_aload_n g dk_1_readAlone_28 0 rfl rfl (pc' := 29) rfl ?_
    refine gfM_X_119 g hK dk_1_readAlone_29 (pc' := 32) rfl ?_
    refine v_icmp_ge (tgt := 93) (pc' := 35) g dk_1_readAlone_32 (by decide) rfl (fun hc => ?_) (fun hc => ?_)
    · replace hf := ifT hc hf
      refine v_sub [2] rfl ?_
      have e9 := Option.some.inj hf
      subst e9
      exact hx
    · replace hf := ifF hc hf
      refine v_bipush (v := 8) g dk_1_readAlone_35 (by decide) (pc' := 37) rfl ?_
      refine v_iload_n g dk_1_readAlone_37 3 rfl rfl (pc' := 38) rfl ?_
      refine v_imul g dk_1_readAlone_38 (pc' := 39) rfl ?_
      refine v_istore (lv' := [(4, .int ((8 : Int32) * x3)), (0, .ref (ad 0)), (1, .int x1), (2, .int x2), (3, .int x3)]) g dk_1_readAlone_39 (by decide) rfl (pc' := 41) rfl ?_
      refine v_sub [1, 2, 3, 4, 0] rfl ?_
      obtain ⟨y7, hL, hf⟩ := bnd hf
      refine w_MX_readAlone_41 g hr hlk hK hA 100 x2 ((8 : Int32) * x3) _ hL ?_
      refine v_iinc (j := 3) (v := x3 + 1) (lv' := [(3, .int (x3 + 1)), (0, .ref (ad 0)), (1, .int x1), (2, .int y7)]) g dk_1_readAlone_87 rfl rfl (by decide) rfl (pc' := 90) rfl ?_
      refine v_goto (tgt := 27) g dk_1_readAlone_90 (by decide) ?_
      refine v_sub [1, 2, 3, 0] rfl ?_
      exact ih y7 (x3 + 1) o hf hx
def m_MX_readAlone (S : StM) (x1 : Int32) : Option Int32 :=
  if inb x1 16 = true then if (gA S 17 x1.toNatClampNeg) = (-1) then (L_MX_readAlone_27 S x1 100 0 0).bind fun y11 =>
    some y11
    else (m_MX_readBy S (gA S 17 x1.toNatClampNeg)).bind fun q2 =>
    (L_MX_readAlone_27 S x1 100 q2 0).bind fun y9 =>
    some y9 else none
set_option maxHeartbeats 4000000 in
set_option maxRecDepth 100000 in
theorem c_MX_readAlone {l : Launch} {D : va_G} {ad : Nat → Nat} {ca : Nat → ClassId} {S : StM} {x1 : Int32} {r : Int32} (hf : m_MX_readAlone S x1 = some r) : KIM l D ad ca yk_1_readAlone (.code yk_1_readAlone bk_1_readAlone 5 (some .int) :: tb) rm_MX_readAlone [.ref (ad 0), .int x1] S (r, S) := by
  refine met_i (by decide) (Nat.le_of_ble_eq_true rfl) (fun p e s m below meth c A g hr hlk hK hA => ?_)
  replace g : CallFix p m c bk_1_readAlone 5 s _ tb Rk_1 := g
  refine v_lv (lv' := [(0, .ref (ad 0)), (1, .int x1)]) rfl ?_
  unfold m_MX_readAlone at hf
  refine v_aload_n g dk_1_readAlone_0 0 rfl rfl (pc' := 1) rfl ?_
  refine gfM_X_62 g hK dk_1_readAlone_1 (pc' := 4) rfl ?_
  refine v_iload_n g dk_1_readAlone_4 1 rfl rfl (pc' := 5) rfl ?_
  obtain ⟨hb1, hf⟩ := grd hf
  refine alM_18 g hK hb1 dk_1_readAlone_5 (pc' := 6) rfl ?_
  refine v_iconst (v := (-1)) g dk_1_readAlone_6 (by decide) (pc' := 7) rfl ?_
  refine v_icmp_ne (tgt := 14) (pc' := 10) g dk_1_readAlone_7 (by decide) rfl (fun hc => ?_) (fun hc => ?_)
  · replace hf := ifF hc hf
    refine v_aload_n g dk_1_readAlone_14 0 rfl rfl (pc' := 15) rfl ?_
    refine v_aload_n g dk_1_readAlone_15 0 rfl rfl (pc' := 16) rfl ?_
    refine gfM_X_62 g hK dk_1_readAlone_16 (pc' := 19) rfl ?_
    refine v_iload_n g dk_1_readAlone_19 1 rfl rfl (pc' := 20) rfl ?_
    refine alM_18 g hK hb1 dk_1_readAlone_20 (pc' := 21) rfl ?_
    obtain ⟨q2, hq, hf⟩ := bnd hf
    refine v_callV_i (As := [.int (gA S 17 x1.toNatClampNeg)]) (rest := []) (r := q2) (S1 := S) g hK hA (c_MX_readBy hq) (kcM_X_198 g.2.2.2.2 rfl rfl (Nat.le_of_ble_eq_true rfl) (Nat.le_of_ble_eq_true rfl)) (ci := 1) (q0 := 0) rfl rfl rfl rfl rfl (Nat.le_of_ble_eq_true rfl) dk_1_readAlone_21 (Nat.zero_le _) (Nat.zero_le _) (pc' := 24) rfl ?_
    refine v_istore_n (lv' := [(2, .int q2), (0, .ref (ad 0)), (1, .int x1)]) g dk_1_readAlone_24 rfl (by decide) rfl (pc' := 25) rfl ?_
    refine v_iconst (v := 0) g dk_1_readAlone_25 (by decide) (pc' := 26) rfl ?_
    refine v_istore_n (lv' := [(3, .int 0), (2, .int q2), (0, .ref (ad 0)), (1, .int x1)]) g dk_1_readAlone_26 rfl (by decide) rfl (pc' := 27) rfl ?_
    refine v_sub [2, 3, 1, 0] rfl ?_
    obtain ⟨y9, hL, hf⟩ := bnd hf
    refine w_MX_readAlone_27 g hr hlk hK hA 100 q2 0 _ hL ?_
    refine v_iload_n g dk_1_readAlone_93 0 rfl rfl (pc' := 94) rfl ?_
    exact v_iret g hr hlk hK  (pinj hf) dk_1_readAlone_94
  · replace hf := ifT hc hf
    refine v_iconst (v := 0) g dk_1_readAlone_10 (by decide) (pc' := 11) rfl ?_
    refine v_goto (tgt := 24) g dk_1_readAlone_11 (by decide) ?_
    refine v_istore_n (lv' := [(2, .int 0), (0, .ref (ad 0)), (1, .int x1)]) g dk_1_readAlone_24 rfl (by decide) rfl (pc' := 25) rfl ?_
    refine v_iconst (v := 0) g dk_1_readAlone_25 (by decide) (pc' := 26) rfl ?_
    refine v_istore_n (lv' := [(3, .int 0), (2, .int 0), (0, .ref (ad 0)), (1, .int x1)]) g dk_1_readAlone_26 rfl (by decide) rfl (pc' := 27) rfl ?_
    refine v_sub [2, 3, 1, 0] rfl ?_
    obtain ⟨y11, hL, hf⟩ := bnd hf
    refine w_MX_readAlone_27 g hr hlk hK hA 100 0 0 _ hL ?_
    refine v_iload_n g dk_1_readAlone_93 0 rfl rfl (pc' := 94) rfl ?_
    exact v_iret g hr hlk hK  (pinj hf) dk_1_readAlone_94
abbrev rm_MX_readAll : Room := { frames := 4, cells := 0, slots := 0, locals := 92 }
def L_MX_readAll_11 (S : StM) (x2 : Int32) : Nat → Int32 → Int32 → Option (Int32)
  | 0, _, _ => none
  | n + 1, x3, x4 =>
    if (gI S 5) ≤ x4 then some x3
    else if ((x2 >>> (x4 &&& 31)) &&& (1 : Int32)) = 1 then (m_MX_readAlone S x4).bind fun q2 =>
    L_MX_readAll_11 S x2 n (x3 ||| q2) (x4 + 1)
    else L_MX_readAll_11 S x2 n (x3 ||| (0 : Int32)) (x4 + 1)
set_option maxHeartbeats 4000000 in
set_option maxRecDepth 100000 in
theorem w_MX_readAll_11 {p : Program} {l : Launch} {e : Env} {s : State} {m : MethodId} {args : Array Value} {below : List Frame} {meth : Method} {c : Code} {A : Nat → Prop} {D : va_G} {ad : Nat → Nat} {ca : Nat → ClassId} {Rm : Int32 × StM} {S : StM} {x2 : Int32} (g : CallFix p m c bk_1_readAll 5 s args tb Rk_1) (hr : meth.sig.returnType = some .int) (hlk : meth.locks = false) (hK : va_K D vwCl (tyM ca) s) (hA : ∀ q, s.heap.size ≤ q → A q) : ∀ (n : Nat) (x3 : Int32) (x4 : Int32) (o : Int32), L_MX_readAll_11 S x2 n x3 x4 = some o → (Vj p l e rm_MX_readAll s m args below meth c (MQ below (qI D vwCl (tyM ca) (wdM ad ca) A Rm) args s 0 0 A) D vwCl A 5 0 0 (wdM ad ca S) 49 [(3, .int o)] []) → Vj p l e rm_MX_readAll s m args below meth c (MQ below (qI D vwCl (tyM ca) (wdM ad ca) A Rm) args s 0 0 A) D vwCl A 5 0 0 (wdM ad ca S) 11 [(0, .ref (ad 0)), (2, .int x2), (3, .int x3), (4, .int x4)] [] := by
  intro n
  induction n with
  | zero => intro x3 x4 o hf; exact nomatch (show none = some o from hf)
  | succ n ih =>
    intro x3 x4 o hf hx
    rw [L_MX_readAll_11] at hf
    refine v_iload g dk_1_readAll_11 3 rfl (pc' := 13) rfl ?_
    refine v_aload_n g dk_1_readAll_13 0 rfl rfl (pc' := 14) rfl ?_
    refine gfM_X_138 g hK dk_1_readAll_14 (pc' := 17) rfl ?_
    refine v_icmp_ge (tgt := 49) (pc' := 20) g dk_1_readAll_17 (by decide) rfl (fun hc => ?_) (fun hc => ?_)
    · replace hf := ifT hc hf
      refine v_sub [2] rfl ?_
      have e9 := Option.some.inj hf
      subst e9
      exact hx
    · replace hf := ifF hc hf
      refine v_iload_n g dk_1_readAll_20 2 rfl rfl (pc' := 21) rfl ?_
      refine v_iload_n g dk_1_readAll_21 1 rfl rfl (pc' := 22) rfl ?_
      refine v_iload g dk_1_readAll_22 3 rfl (pc' := 24) rfl ?_
      refine v_ishr g dk_1_readAll_24 (pc' := 25) rfl ?_
      refine v_iconst (v := 1) g dk_1_readAll_25 (by decide) (pc' := 26) rfl ?_
      refine v_iand g dk_1_readAll_26 (pc' := 27) rfl ?_
      refine v_iconst (v := 1) g dk_1_readAll_27 (by decide) (pc' := 28) rfl ?_
      refine v_icmp_ne (tgt := 40) (pc' := 31) g dk_1_readAll_28 (by decide) rfl (fun hc => ?_) (fun hc => ?_)
      · replace hf := ifF hc hf
        refine v_iconst (v := 0) g dk_1_readAll_40 (by decide) (pc' := 41) rfl ?_
        refine v_ior g dk_1_readAll_41 (pc' := 42) rfl ?_
        refine v_istore_n (lv' := [(3, .int (x3 ||| (0 : Int32))), (0, .ref (ad 0)), (2, .int x2), (4, .int x4)]) g dk_1_readAll_42 rfl (by decide) rfl (pc' := 43) rfl ?_
        refine v_iinc (j := 3) (v := x4 + 1) (lv' := [(4, .int (x4 + 1)), (3, .int (x3 ||| (0 : Int32))), (0, .ref (ad 0)), (2, .int x2)]) g dk_1_readAll_43 rfl rfl (by decide) rfl (pc' := 46) rfl ?_
        refine v_goto (tgt := 11) g dk_1_readAll_46 (by decide) ?_
        refine v_sub [2, 3, 1, 0] rfl ?_
        exact ih (x3 ||| (0 : Int32)) (x4 + 1) o hf hx
      · replace hf := ifT hc hf
        refine v_aload_n g dk_1_readAll_31 0 rfl rfl (pc' := 32) rfl ?_
        refine v_iload g dk_1_readAll_32 3 rfl (pc' := 34) rfl ?_
        obtain ⟨q2, hq, hf⟩ := bnd hf
        refine v_callV_i (As := [.int x4]) (rest := [.int x3]) (r := q2) (S1 := S) g hK hA (c_MX_readAlone hq) (kcM_X_204 g.2.2.2.2 rfl rfl (Nat.le_of_ble_eq_true rfl) (Nat.le_of_ble_eq_true rfl)) (ci := 1) (q0 := 0) rfl rfl rfl rfl rfl (Nat.le_of_ble_eq_true rfl) dk_1_readAll_34 (Nat.zero_le _) (Nat.zero_le _) (pc' := 37) rfl ?_
        refine v_goto (tgt := 41) g dk_1_readAll_37 (by decide) ?_
        refine v_ior g dk_1_readAll_41 (pc' := 42) rfl ?_
        refine v_istore_n (lv' := [(3, .int (x3 ||| q2)), (0, .ref (ad 0)), (2, .int x2), (4, .int x4)]) g dk_1_readAll_42 rfl (by decide) rfl (pc' := 43) rfl ?_
        refine v_iinc (j := 3) (v := x4 + 1) (lv' := [(4, .int (x4 + 1)), (3, .int (x3 ||| q2)), (0, .ref (ad 0)), (2, .int x2)]) g dk_1_readAll_43 rfl rfl (by decide) rfl (pc' := 46) rfl ?_
        refine v_goto (tgt := 11) g dk_1_readAll_46 (by decide) ?_
        refine v_sub [2, 3, 1, 0] rfl ?_
        exact ih (x3 ||| q2) (x4 + 1) o hf hx
def m_MX_readAll (S : StM) (x1 : Int32) : Option Int32 :=
  (m_MX_led S x1).bind fun q1 =>
    (L_MX_readAll_11 S q1 100 0 0).bind fun y4 =>
    some y4
set_option maxHeartbeats 4000000 in
set_option maxRecDepth 100000 in
theorem c_MX_readAll {l : Launch} {D : va_G} {ad : Nat → Nat} {ca : Nat → ClassId} {S : StM} {x1 : Int32} {r : Int32} (hf : m_MX_readAll S x1 = some r) : KIM l D ad ca yk_1_readAll (.code yk_1_readAll bk_1_readAll 5 (some .int) :: tb) rm_MX_readAll [.ref (ad 0), .int x1] S (r, S) := by
  refine met_i (by decide) (Nat.le_of_ble_eq_true rfl) (fun p e s m below meth c A g hr hlk hK hA => ?_)
  replace g : CallFix p m c bk_1_readAll 5 s _ tb Rk_1 := g
  refine v_lv (lv' := [(0, .ref (ad 0)), (1, .int x1)]) rfl ?_
  unfold m_MX_readAll at hf
  refine v_aload_n g dk_1_readAll_0 0 rfl rfl (pc' := 1) rfl ?_
  refine v_iload_n g dk_1_readAll_1 1 rfl rfl (pc' := 2) rfl ?_
  obtain ⟨q1, hq, hf⟩ := bnd hf
  refine v_callV_i (As := [.int x1]) (rest := []) (r := q1) (S1 := S) g hK hA (c_MX_led hq) (kcM_X_201 g.2.2.2.2 rfl rfl (Nat.le_of_ble_eq_true rfl) (Nat.le_of_ble_eq_true rfl)) (ci := 1) (q0 := 0) rfl rfl rfl rfl rfl (Nat.le_of_ble_eq_true rfl) dk_1_readAll_2 (Nat.zero_le _) (Nat.zero_le _) (pc' := 5) rfl ?_
  refine v_istore_n (lv' := [(2, .int q1), (0, .ref (ad 0)), (1, .int x1)]) g dk_1_readAll_5 rfl (by decide) rfl (pc' := 6) rfl ?_
  refine v_iconst (v := 0) g dk_1_readAll_6 (by decide) (pc' := 7) rfl ?_
  refine v_istore_n (lv' := [(3, .int 0), (2, .int q1), (0, .ref (ad 0)), (1, .int x1)]) g dk_1_readAll_7 rfl (by decide) rfl (pc' := 8) rfl ?_
  refine v_iconst (v := 0) g dk_1_readAll_8 (by decide) (pc' := 9) rfl ?_
  refine v_istore (lv' := [(4, .int 0), (3, .int 0), (2, .int q1), (0, .ref (ad 0)), (1, .int x1)]) g dk_1_readAll_9 (by decide) rfl (pc' := 11) rfl ?_
  refine v_sub [3, 2, 1, 0] rfl ?_
  obtain ⟨y4, hL, hf⟩ := bnd hf
  refine w_MX_readAll_11 g hr hlk hK hA 100 0 0 _ hL ?_
  refine v_iload_n g dk_1_readAll_49 0 rfl rfl (pc' := 50) rfl ?_
  exact v_iret g hr hlk hK  (pinj hf) dk_1_readAll_50
