abbrev rm_MX_isSo : Room := { frames := 2, cells := 0, slots := 0, locals := 44 }
def m_MX_isSo (S : StM) (x1 : Int32) (x2 : Int32) : Option Int32 :=
  if inb x1 240 = true then if (gA S 9 x1.toNatClampNeg) = 0 then (m_MX_baseOf S (gA S 7 x1.toNatClampNeg)).bind fun q2 =>
    if q2 = (-1) then some 0
    else if inb (((16 : Int32) * x2) + q2) 976 = true then if (gA S 5 (((16 : Int32) * x2) + q2).toNatClampNeg) = (gA S 8 x1.toNatClampNeg) then some 1
    else some 0 else none
    else if inb x2 61 = true then if inb (((8 : Int32) * (gA S 4 x2.toNatClampNeg)) + (gA S 7 x1.toNatClampNeg)) 64 = true then if (gA S 3 (((8 : Int32) * (gA S 4 x2.toNatClampNeg)) + (gA S 7 x1.toNatClampNeg)).toNatClampNeg) = (gA S 8 x1.toNatClampNeg) then some 1
    else some 0 else none else none else none
set_option maxHeartbeats 4000000 in
set_option maxRecDepth 100000 in
theorem c_MX_isSo {l : Launch} {D : va_G} {ad : Nat → Nat} {ca : Nat → ClassId} {S : StM} {x1 : Int32} {x2 : Int32} {r : Int32} (hf : m_MX_isSo S x1 x2 = some r) : KIM l D ad ca yk_1_isSo (.code yk_1_isSo bk_1_isSo 4 (some .boolean) :: tb) rm_MX_isSo [.ref (ad 0), .int x1, .int x2] S (r, S) := by
  refine met_z (by decide) (Nat.le_of_ble_eq_true rfl) (fun p e s m below meth c A g hr hlk hK hA => ?_)
  replace g : CallFix p m c bk_1_isSo 4 s _ tb Rk_1 := g
  refine v_lv (lv' := [(0, .ref (ad 0)), (1, .int x1), (2, .int x2)]) rfl ?_
  unfold m_MX_isSo at hf
  refine v_aload_n g dk_1_isSo_0 0 rfl rfl (pc' := 1) rfl ?_
  refine gfM_X_37 g hK dk_1_isSo_1 (pc' := 4) rfl ?_
  refine v_iload_n g dk_1_isSo_4 1 rfl rfl (pc' := 5) rfl ?_
  obtain ⟨hb1, hf⟩ := grd hf
  refine alM_10 g hK hb1 dk_1_isSo_5 (pc' := 6) rfl ?_
  refine v_if_eq (tgt := 45) (pc' := 9) g dk_1_isSo_6 (by decide) rfl (fun hc => ?_) (fun hc => ?_)
  · replace hf := ifT hc hf
    refine v_aload_n g dk_1_isSo_45 0 rfl rfl (pc' := 46) rfl ?_
    refine v_aload_n g dk_1_isSo_46 0 rfl rfl (pc' := 47) rfl ?_
    refine gfM_X_31 g hK dk_1_isSo_47 (pc' := 50) rfl ?_
    refine v_iload_n g dk_1_isSo_50 1 rfl rfl (pc' := 51) rfl ?_
    refine alM_8 g hK hb1 dk_1_isSo_51 (pc' := 52) rfl ?_
    obtain ⟨q2, hq, hf⟩ := bnd hf
    refine v_callV_i (As := [.int (gA S 7 x1.toNatClampNeg)]) (rest := []) (r := q2) (S1 := S) g hK hA (c_MX_baseOf hq) (kcM_X_106 g.2.2.2.2 rfl rfl (Nat.le_of_ble_eq_true rfl) (Nat.le_of_ble_eq_true rfl)) (ci := 1) (q0 := 0) rfl rfl rfl rfl rfl (Nat.le_of_ble_eq_true rfl) dk_1_isSo_52 (Nat.zero_le _) (Nat.zero_le _) (pc' := 55) rfl ?_
    refine v_istore_n (lv' := [(3, .int q2), (0, .ref (ad 0)), (1, .int x1), (2, .int x2)]) g dk_1_isSo_55 rfl (by decide) rfl (pc' := 56) rfl ?_
    refine v_iload_n g dk_1_isSo_56 0 rfl rfl (pc' := 57) rfl ?_
    refine v_iconst (v := (-1)) g dk_1_isSo_57 (by decide) (pc' := 58) rfl ?_
    refine v_icmp_eq (tgt := 85) (pc' := 61) g dk_1_isSo_58 (by decide) rfl (fun hc => ?_) (fun hc => ?_)
    · replace hf := ifT hc hf
      refine v_iconst (v := 0) g dk_1_isSo_85 (by decide) (pc' := 86) rfl ?_
      exact v_zret g hr hlk hK rfl (pinj hf) dk_1_isSo_86
    · replace hf := ifF hc hf
      refine v_aload_n g dk_1_isSo_61 1 rfl rfl (pc' := 62) rfl ?_
      refine gfM_X_25 g hK dk_1_isSo_62 (pc' := 65) rfl ?_
      refine v_bipush (v := 16) g dk_1_isSo_65 (by decide) (pc' := 67) rfl ?_
      refine v_iload_n g dk_1_isSo_67 3 rfl rfl (pc' := 68) rfl ?_
      refine v_imul g dk_1_isSo_68 (pc' := 69) rfl ?_
      refine v_iload_n g dk_1_isSo_69 0 rfl rfl (pc' := 70) rfl ?_
      refine v_iadd g dk_1_isSo_70 (pc' := 71) rfl ?_
      obtain ⟨hb3, hf⟩ := grd hf
      refine alM_6 g hK hb3 dk_1_isSo_71 (pc' := 72) rfl ?_
      refine v_aload_n g dk_1_isSo_72 1 rfl rfl (pc' := 73) rfl ?_
      refine gfM_X_34 g hK dk_1_isSo_73 (pc' := 76) rfl ?_
      refine v_iload_n g dk_1_isSo_76 2 rfl rfl (pc' := 77) rfl ?_
      refine alM_9 g hK hb1 dk_1_isSo_77 (pc' := 78) rfl ?_
      refine v_icmp_ne (tgt := 85) (pc' := 81) g dk_1_isSo_78 (by decide) rfl (fun hc => ?_) (fun hc => ?_)
      · replace hf := ifF hc hf
        refine v_iconst (v := 0) g dk_1_isSo_85 (by decide) (pc' := 86) rfl ?_
        exact v_zret g hr hlk hK rfl (pinj hf) dk_1_isSo_86
      · replace hf := ifT hc hf
        refine v_iconst (v := 1) g dk_1_isSo_81 (by decide) (pc' := 82) rfl ?_
        refine v_goto (tgt := 86) g dk_1_isSo_82 (by decide) ?_
        exact v_zret g hr hlk hK rfl (pinj hf) dk_1_isSo_86
  · replace hf := ifF hc hf
    refine v_aload_n g dk_1_isSo_9 0 rfl rfl (pc' := 10) rfl ?_
    refine gfM_X_19 g hK dk_1_isSo_10 (pc' := 13) rfl ?_
    refine v_bipush (v := 8) g dk_1_isSo_13 (by decide) (pc' := 15) rfl ?_
    refine v_aload_n g dk_1_isSo_15 0 rfl rfl (pc' := 16) rfl ?_
    refine gfM_X_22 g hK dk_1_isSo_16 (pc' := 19) rfl ?_
    refine v_iload_n g dk_1_isSo_19 2 rfl rfl (pc' := 20) rfl ?_
    obtain ⟨hb4, hf⟩ := grd hf
    refine alM_5 g hK hb4 dk_1_isSo_20 (pc' := 21) rfl ?_
    refine v_imul g dk_1_isSo_21 (pc' := 22) rfl ?_
    refine v_aload_n g dk_1_isSo_22 0 rfl rfl (pc' := 23) rfl ?_
    refine gfM_X_31 g hK dk_1_isSo_23 (pc' := 26) rfl ?_
    refine v_iload_n g dk_1_isSo_26 1 rfl rfl (pc' := 27) rfl ?_
    refine alM_8 g hK hb1 dk_1_isSo_27 (pc' := 28) rfl ?_
    refine v_iadd g dk_1_isSo_28 (pc' := 29) rfl ?_
    obtain ⟨hb5, hf⟩ := grd hf
    refine alM_4 g hK hb5 dk_1_isSo_29 (pc' := 30) rfl ?_
    refine v_aload_n g dk_1_isSo_30 0 rfl rfl (pc' := 31) rfl ?_
    refine gfM_X_34 g hK dk_1_isSo_31 (pc' := 34) rfl ?_
    refine v_iload_n g dk_1_isSo_34 1 rfl rfl (pc' := 35) rfl ?_
    refine alM_9 g hK hb1 dk_1_isSo_35 (pc' := 36) rfl ?_
    refine v_icmp_ne (tgt := 43) (pc' := 39) g dk_1_isSo_36 (by decide) rfl (fun hc => ?_) (fun hc => ?_)
    · replace hf := ifF hc hf
      refine v_iconst (v := 0) g dk_1_isSo_43 (by decide) (pc' := 44) rfl ?_
      exact v_zret g hr hlk hK rfl (pinj hf) dk_1_isSo_44
    · replace hf := ifT hc hf
      refine v_iconst (v := 1) g dk_1_isSo_39 (by decide) (pc' := 40) rfl ?_
      refine v_goto (tgt := 44) g dk_1_isSo_40 (by decide) ?_
      exact v_zret g hr hlk hK rfl (pinj hf) dk_1_isSo_44
abbrev rm_MX_isHolding : Room := { frames := 3, cells := 0, slots := 0, locals := 67 }
def L_MX_isHolding_8 (S : StM) (x1 : Int32) (x2 : Int32) : Nat → Int32 → Int32 → Option (Int32)
  | 0, _, _ => none
  | n + 1, x3, x4 =>
    if inb x1 40 = true then if (((6 : Int32) * x1) + (gA S 6 x1.toNatClampNeg)) ≤ x4 then some x3
    else if x3 = 0 then L_MX_isHolding_8 S x1 x2 n 0 (x4 + 1)
    else (m_MX_isSo S x4 x2).bind fun q2 =>
    if q2 = 0 then L_MX_isHolding_8 S x1 x2 n 0 (x4 + 1)
    else L_MX_isHolding_8 S x1 x2 n 1 (x4 + 1) else none
set_option maxHeartbeats 4000000 in
set_option maxRecDepth 100000 in
theorem w_MX_isHolding_8 {p : Program} {l : Launch} {e : Env} {s : State} {m : MethodId} {args : Array Value} {below : List Frame} {meth : Method} {c : Code} {A : Nat → Prop} {D : va_G} {ad : Nat → Nat} {ca : Nat → ClassId} {Rm : Int32 × StM} {S : StM} {x1 : Int32} {x2 : Int32} (g : CallFix p m c bk_1_isHolding 5 s args tb Rk_1) (hr : meth.sig.returnType = some .boolean) (hlk : meth.locks = false) (hK : va_K D vwCl (tyM ca) s) (hA : ∀ q, s.heap.size ≤ q → A q) : ∀ (n : Nat) (x3 : Int32) (x4 : Int32) (o : Int32), L_MX_isHolding_8 S x1 x2 n x3 x4 = some o → (Vj p l e rm_MX_isHolding s m args below meth c (MQ below (qI D vwCl (tyM ca) (wdM ad ca) A Rm) args s 0 0 A) D vwCl A 5 0 0 (wdM ad ca S) 50 [(3, .int o)] []) → Vj p l e rm_MX_isHolding s m args below meth c (MQ below (qI D vwCl (tyM ca) (wdM ad ca) A Rm) args s 0 0 A) D vwCl A 5 0 0 (wdM ad ca S) 8 [(0, .ref (ad 0)), (1, .int x1), (2, .int x2), (3, .int x3), (4, .int x4)] [] := by
  intro n
  induction n with
  | zero => intro x3 x4 o hf; exact nomatch (show none = some o from hf)
  | succ n ih =>
    intro x3 x4 o hf hx
    rw [L_MX_isHolding_8] at hf
    refine v_iload g dk_1_isHolding_8 4 rfl (pc' := 10) rfl ?_
    refine v_bipush (v := 6) g dk_1_isHolding_10 (by decide) (pc' := 12) rfl ?_
    refine v_iload_n g dk_1_isHolding_12 1 rfl rfl (pc' := 13) rfl ?_
    refine v_imul g dk_1_isHolding_13 (pc' := 14) rfl ?_
    refine v_aload_n g dk_1_isHolding_14 0 rfl rfl (pc' := 15) rfl ?_
    refine gfM_X_28 g hK dk_1_isHolding_15 (pc' := 18) rfl ?_
    refine v_iload_n g dk_1_isHolding_18 1 rfl rfl (pc' := 19) rfl ?_
    obtain ⟨hb1, hf⟩ := grd hf
    refine alM_7 g hK hb1 dk_1_isHolding_19 (pc' := 20) rfl ?_
    refine v_iadd g dk_1_isHolding_20 (pc' := 21) rfl ?_
    refine v_icmp_ge (tgt := 50) (pc' := 24) g dk_1_isHolding_21 (by decide) rfl (fun hc => ?_) (fun hc => ?_)
    · replace hf := ifT hc hf
      refine v_sub [3] rfl ?_
      have e9 := Option.some.inj hf
      subst e9
      exact hx
    · replace hf := ifF hc hf
      refine v_iload_n g dk_1_isHolding_24 3 rfl rfl (pc' := 25) rfl ?_
      refine v_if_eq (tgt := 42) (pc' := 28) g dk_1_isHolding_25 (by decide) rfl (fun hc => ?_) (fun hc => ?_)
      · replace hf := ifT hc hf
        refine v_iconst (v := 0) g dk_1_isHolding_42 (by decide) (pc' := 43) rfl ?_
        refine v_istore_n (lv' := [(3, .int 0), (0, .ref (ad 0)), (1, .int x1), (2, .int x2), (4, .int x4)]) g dk_1_isHolding_43 rfl (by decide) rfl (pc' := 44) rfl ?_
        refine v_iinc (j := 4) (v := x4 + 1) (lv' := [(4, .int (x4 + 1)), (3, .int 0), (0, .ref (ad 0)), (1, .int x1), (2, .int x2)]) g dk_1_isHolding_44 rfl rfl (by decide) rfl (pc' := 47) rfl ?_
        refine v_goto (tgt := 8) g dk_1_isHolding_47 (by decide) ?_
        refine v_sub [2, 3, 4, 1, 0] rfl ?_
        exact ih 0 (x4 + 1) o hf hx
      · replace hf := ifF hc hf
        refine v_aload_n g dk_1_isHolding_28 0 rfl rfl (pc' := 29) rfl ?_
        refine v_iload g dk_1_isHolding_29 4 rfl (pc' := 31) rfl ?_
        refine v_iload_n g dk_1_isHolding_31 2 rfl rfl (pc' := 32) rfl ?_
        obtain ⟨q2, hq, hf⟩ := bnd hf
        refine v_callV_i (As := [.int x4, .int x2]) (rest := []) (r := q2) (S1 := S) g hK hA (c_MX_isSo hq) (kcM_X_126 g.2.2.2.2 rfl rfl (Nat.le_of_ble_eq_true rfl) (Nat.le_of_ble_eq_true rfl)) (ci := 1) (q0 := 0) rfl rfl rfl rfl rfl (Nat.le_of_ble_eq_true rfl) dk_1_isHolding_32 (Nat.zero_le _) (Nat.zero_le _) (pc' := 35) rfl ?_
        refine v_if_eq (tgt := 42) (pc' := 38) g dk_1_isHolding_35 (by decide) rfl (fun hc => ?_) (fun hc => ?_)
        · replace hf := ifT hc hf
          refine v_iconst (v := 0) g dk_1_isHolding_42 (by decide) (pc' := 43) rfl ?_
          refine v_istore_n (lv' := [(3, .int 0), (0, .ref (ad 0)), (1, .int x1), (2, .int x2), (4, .int x4)]) g dk_1_isHolding_43 rfl (by decide) rfl (pc' := 44) rfl ?_
          refine v_iinc (j := 4) (v := x4 + 1) (lv' := [(4, .int (x4 + 1)), (3, .int 0), (0, .ref (ad 0)), (1, .int x1), (2, .int x2)]) g dk_1_isHolding_44 rfl rfl (by decide) rfl (pc' := 47) rfl ?_
          refine v_goto (tgt := 8) g dk_1_isHolding_47 (by decide) ?_
          refine v_sub [2, 3, 4, 1, 0] rfl ?_
          exact ih 0 (x4 + 1) o hf hx
        · replace hf := ifF hc hf
          refine v_iconst (v := 1) g dk_1_isHolding_38 (by decide) (pc' := 39) rfl ?_
          refine v_goto (tgt := 43) g dk_1_isHolding_39 (by decide) ?_
          refine v_istore_n (lv' := [(3, .int 1), (0, .ref (ad 0)), (1, .int x1), (2, .int x2), (4, .int x4)]) g dk_1_isHolding_43 rfl (by decide) rfl (pc' := 44) rfl ?_
          refine v_iinc (j := 4) (v := x4 + 1) (lv' := [(4, .int (x4 + 1)), (3, .int 1), (0, .ref (ad 0)), (1, .int x1), (2, .int x2)]) g dk_1_isHolding_44 rfl rfl (by decide) rfl (pc' := 47) rfl ?_
          refine v_goto (tgt := 8) g dk_1_isHolding_47 (by decide) ?_
          refine v_sub [2, 3, 4, 1, 0] rfl ?_
          exact ih 1 (x4 + 1) o hf hx
def m_MX_isHolding (S : StM) (x1 : Int32) (x2 : Int32) : Option Int32 :=
  (L_MX_isHolding_8 S x1 x2 100 1 ((6 : Int32) * x1)).bind fun y4 =>
    if isB y4 = true then some y4 else none
set_option maxHeartbeats 4000000 in
set_option maxRecDepth 100000 in
theorem c_MX_isHolding {l : Launch} {D : va_G} {ad : Nat → Nat} {ca : Nat → ClassId} {S : StM} {x1 : Int32} {x2 : Int32} {r : Int32} (hf : m_MX_isHolding S x1 x2 = some r) : KIM l D ad ca yk_1_isHolding (.code yk_1_isHolding bk_1_isHolding 5 (some .boolean) :: tb) rm_MX_isHolding [.ref (ad 0), .int x1, .int x2] S (r, S) := by
  refine met_z (by decide) (Nat.le_of_ble_eq_true rfl) (fun p e s m below meth c A g hr hlk hK hA => ?_)
  replace g : CallFix p m c bk_1_isHolding 5 s _ tb Rk_1 := g
  refine v_lv (lv' := [(0, .ref (ad 0)), (1, .int x1), (2, .int x2)]) rfl ?_
  unfold m_MX_isHolding at hf
  refine v_iconst (v := 1) g dk_1_isHolding_0 (by decide) (pc' := 1) rfl ?_
  refine v_istore_n (lv' := [(3, .int 1), (0, .ref (ad 0)), (1, .int x1), (2, .int x2)]) g dk_1_isHolding_1 rfl (by decide) rfl (pc' := 2) rfl ?_
  refine v_bipush (v := 6) g dk_1_isHolding_2 (by decide) (pc' := 4) rfl ?_
  refine v_iload_n g dk_1_isHolding_4 2 rfl rfl (pc' := 5) rfl ?_
  refine v_imul g dk_1_isHolding_5 (pc' := 6) rfl ?_
  refine v_istore (lv' := [(4, .int ((6 : Int32) * x1)), (3, .int 1), (0, .ref (ad 0)), (1, .int x1), (2, .int x2)]) g dk_1_isHolding_6 (by decide) rfl (pc' := 8) rfl ?_
  refine v_sub [2, 3, 4, 1, 0] rfl ?_
  obtain ⟨y4, hL, hf⟩ := bnd hf
  refine w_MX_isHolding_8 g hr hlk hK hA 100 1 ((6 : Int32) * x1) _ hL ?_
  refine v_iload_n g dk_1_isHolding_50 0 rfl rfl (pc' := 51) rfl ?_
  obtain ⟨hz, hf⟩ := grd hf
  exact v_zret g hr hlk hK hz (pinj hf) dk_1_isHolding_51
abbrev rm_MX_holds : Room := { frames := 4, cells := 0, slots := 0, locals := 91 }
def m_MX_holds (S : StM) (x1 : Int32) (x2 : Int32) : Option Int32 :=
  (m_MX_in S x1 (gI S 3)).bind fun q1 =>
    if q1 = 0 then some 0
    else (m_MX_in S x2 (gI S 2)).bind fun q2 =>
    if q2 = 0 then some 0
    else (m_MX_isHolding S x1 x2).bind fun q3 =>
    if q3 = 0 then some 0
    else some 1
set_option maxHeartbeats 4000000 in
set_option maxRecDepth 100000 in
theorem c_MX_holds {l : Launch} {D : va_G} {ad : Nat → Nat} {ca : Nat → ClassId} {S : StM} {x1 : Int32} {x2 : Int32} {r : Int32} (hf : m_MX_holds S x1 x2 = some r) : KIM l D ad ca yk_1_holds (.code yk_1_holds bk_1_holds 3 (some .boolean) :: tb) rm_MX_holds [.ref (ad 0), .int x1, .int x2] S (r, S) := by
  refine met_z (by decide) (Nat.le_of_ble_eq_true rfl) (fun p e s m below meth c A g hr hlk hK hA => ?_)
  replace g : CallFix p m c bk_1_holds 3 s _ tb Rk_1 := g
  refine v_lv (lv' := [(0, .ref (ad 0)), (1, .int x1), (2, .int x2)]) rfl ?_
  unfold m_MX_holds at hf
  refine v_iload_n g dk_1_holds_0 1 rfl rfl (pc' := 1) rfl ?_
  refine v_aload_n g dk_1_holds_1 0 rfl rfl (pc' := 2) rfl ?_
  refine gfM_X_116 g hK dk_1_holds_2 (pc' := 5) rfl ?_
  obtain ⟨q1, hq, hf⟩ := bnd hf
  refine v_callS_i (As := [.int x1, .int (gI S 3)]) (rest := []) (r := q1) (S1 := S) g hK hA (c_MX_in hq) (kcM_X_102 g.2.2.2.2 rfl rfl (Nat.le_of_ble_eq_true rfl) (Nat.le_of_ble_eq_true rfl)) rfl rfl (Nat.le_of_ble_eq_true rfl) dk_1_holds_5 (Nat.zero_le _) (Nat.zero_le _) (pc' := 8) rfl ?_
  refine v_if_eq (tgt := 35) (pc' := 11) g dk_1_holds_8 (by decide) rfl (fun hc => ?_) (fun hc => ?_)
  · replace hf := ifT hc hf
    refine v_iconst (v := 0) g dk_1_holds_35 (by decide) (pc' := 36) rfl ?_
    exact v_zret g hr hlk hK rfl (pinj hf) dk_1_holds_36
  · replace hf := ifF hc hf
    refine v_iload_n g dk_1_holds_11 2 rfl rfl (pc' := 12) rfl ?_
    refine v_aload_n g dk_1_holds_12 0 rfl rfl (pc' := 13) rfl ?_
    refine gfM_X_113 g hK dk_1_holds_13 (pc' := 16) rfl ?_
    obtain ⟨q2, hq, hf⟩ := bnd hf
    refine v_callS_i (As := [.int x2, .int (gI S 2)]) (rest := []) (r := q2) (S1 := S) g hK hA (c_MX_in hq) (kcM_X_102 g.2.2.2.2 rfl rfl (Nat.le_of_ble_eq_true rfl) (Nat.le_of_ble_eq_true rfl)) rfl rfl (Nat.le_of_ble_eq_true rfl) dk_1_holds_16 (Nat.zero_le _) (Nat.zero_le _) (pc' := 19) rfl ?_
    refine v_if_eq (tgt := 35) (pc' := 22) g dk_1_holds_19 (by decide) rfl (fun hc => ?_) (fun hc => ?_)
    · replace hf := ifT hc hf
      refine v_iconst (v := 0) g dk_1_holds_35 (by decide) (pc' := 36) rfl ?_
      exact v_zret g hr hlk hK rfl (pinj hf) dk_1_holds_36
    · replace hf := ifF hc hf
      refine v_aload_n g dk_1_holds_22 0 rfl rfl (pc' := 23) rfl ?_
      refine v_iload_n g dk_1_holds_23 1 rfl rfl (pc' := 24) rfl ?_
      refine v_iload_n g dk_1_holds_24 2 rfl rfl (pc' := 25) rfl ?_
      obtain ⟨q3, hq, hf⟩ := bnd hf
      refine v_callV_i (As := [.int x1, .int x2]) (rest := []) (r := q3) (S1 := S) g hK hA (c_MX_isHolding hq) (kcM_X_129 g.2.2.2.2 rfl rfl (Nat.le_of_ble_eq_true rfl) (Nat.le_of_ble_eq_true rfl)) (ci := 1) (q0 := 0) rfl rfl rfl rfl rfl (Nat.le_of_ble_eq_true rfl) dk_1_holds_25 (Nat.zero_le _) (Nat.zero_le _) (pc' := 28) rfl ?_
      refine v_if_eq (tgt := 35) (pc' := 31) g dk_1_holds_28 (by decide) rfl (fun hc => ?_) (fun hc => ?_)
      · replace hf := ifT hc hf
        refine v_iconst (v := 0) g dk_1_holds_35 (by decide) (pc' := 36) rfl ?_
        exact v_zret g hr hlk hK rfl (pinj hf) dk_1_holds_36
      · replace hf := ifF hc hf
        refine v_iconst (v := 1) g dk_1_holds_31 (by decide) (pc' := 32) rfl ?_
        refine v_goto (tgt := 36) g dk_1_holds_32 (by decide) ?_
        exact v_zret g hr hlk hK rfl (pinj hf) dk_1_holds_36
abbrev rm_MX_target : Room := { frames := 0, cells := 0, slots := 0, locals := 0 }
def m_MX_target (S : StM) : Option (Int32 × StM) :=
  if (gI S 5) = 16 then some ((-1), S)
    else if inb (gI S 5) 16 = true then some (((gI S 5) + (1 : Int32)) - (1 : Int32), sI (tA S 17 (gI S 5) (-1)) 5 ((gI S 5) + (1 : Int32))) else none
set_option maxHeartbeats 4000000 in
set_option maxRecDepth 100000 in
theorem c_MX_target {l : Launch} {D : va_G} {ad : Nat → Nat} {ca : Nat → ClassId} {S : StM} {r : Int32 × StM} (hf : m_MX_target S = some r) : KIM l D ad ca yk_1_target (.code yk_1_target bk_1_target 1 (some .int) :: tb) rm_MX_target [.ref (ad 0)] S r := by
  refine met_i (by decide) (Nat.le_of_ble_eq_true rfl) (fun p e s m below meth c A g hr hlk hK hA => ?_)
  replace g : CallFix p m c bk_1_target 1 s _ tb Rk_1 := g
  refine v_lv (lv' := [(0, .ref (ad 0))]) rfl ?_
  unfold m_MX_target at hf
  refine v_aload_n g dk_1_target_0 0 rfl rfl (pc' := 1) rfl ?_
  refine gfM_X_138 g hK dk_1_target_1 (pc' := 4) rfl ?_
  refine v_bipush (v := 16) g dk_1_target_4 (by decide) (pc' := 6) rfl ?_
  refine v_icmp_ne (tgt := 11) (pc' := 9) g dk_1_target_6 (by decide) rfl (fun hc => ?_) (fun hc => ?_)
  · replace hf := ifF hc hf
    refine v_aload_n g dk_1_target_11 0 rfl rfl (pc' := 12) rfl ?_
    refine gfM_X_62 g hK dk_1_target_12 (pc' := 15) rfl ?_
    refine v_aload_n g dk_1_target_15 0 rfl rfl (pc' := 16) rfl ?_
    refine gfM_X_138 g hK dk_1_target_16 (pc' := 19) rfl ?_
    refine v_iconst (v := (-1)) g dk_1_target_19 (by decide) (pc' := 20) rfl ?_
    obtain ⟨hb1, hf⟩ := grd hf
    refine asM_18 g hK hb1 dk_1_target_20 (pc' := 21) rfl ?_
    refine v_aload_n g dk_1_target_21 0 rfl rfl (pc' := 22) rfl ?_
    refine v_dup g dk_1_target_22 rfl (pc' := 23) rfl ?_
    refine gfM_X_138 g hK dk_1_target_23 (pc' := 26) rfl ?_
    refine v_iconst (v := 1) g dk_1_target_26 (by decide) (pc' := 27) rfl ?_
    refine v_iadd g dk_1_target_27 (pc' := 28) rfl ?_
    refine pfM_X_138 g hK dk_1_target_28 (pc' := 31) rfl ?_
    refine v_aload_n g dk_1_target_31 0 rfl rfl (pc' := 32) rfl ?_
    refine gfM_X_138 g hK dk_1_target_32 (pc' := 35) rfl ?_
    refine v_iconst (v := 1) g dk_1_target_35 (by decide) (pc' := 36) rfl ?_
    refine v_isub g dk_1_target_36 (pc' := 37) rfl ?_
    exact v_iret g hr hlk hK  (Option.some.inj hf) dk_1_target_37
  · replace hf := ifT hc hf
    refine v_iconst (v := (-1)) g dk_1_target_9 (by decide) (pc' := 10) rfl ?_
    exact v_iret g hr hlk hK  (Option.some.inj hf) dk_1_target_10
abbrev rm_MX_wants : Room := { frames := 1, cells := 0, slots := 0, locals := 21 }
def m_MX_wants (S : StM) (x1 : Int32) (x2 : Int32) : Option (Int32 × StM) :=
  (m_MX_in S x1 (gI S 5)).bind fun q1 =>
    if q1 = 0 then some (0, S)
    else (m_MX_in S x2 (gI S 3)).bind fun q2 =>
    if q2 = 0 then some (0, S)
    else if inb x1 16 = true then if inb x2 40 = true then some (1, tA (tA S 17 x1 x2) 18 x2 (vp_nar .boolean 1)) else none else none
set_option maxHeartbeats 4000000 in
set_option maxRecDepth 100000 in
theorem c_MX_wants {l : Launch} {D : va_G} {ad : Nat → Nat} {ca : Nat → ClassId} {S : StM} {x1 : Int32} {x2 : Int32} {r : Int32 × StM} (hf : m_MX_wants S x1 x2 = some r) : KIM l D ad ca yk_1_wants (.code yk_1_wants bk_1_wants 3 (some .boolean) :: tb) rm_MX_wants [.ref (ad 0), .int x1, .int x2] S r := by
  refine met_z (by decide) (Nat.le_of_ble_eq_true rfl) (fun p e s m below meth c A g hr hlk hK hA => ?_)
  replace g : CallFix p m c bk_1_wants 3 s _ tb Rk_1 := g
  refine v_lv (lv' := [(0, .ref (ad 0)), (1, .int x1), (2, .int x2)]) rfl ?_
  unfold m_MX_wants at hf
  refine v_iload_n g dk_1_wants_0 1 rfl rfl (pc' := 1) rfl ?_
  refine v_aload_n g dk_1_wants_1 0 rfl rfl (pc' := 2) rfl ?_
  refine gfM_X_138 g hK dk_1_wants_2 (pc' := 5) rfl ?_
  obtain ⟨q1, hq, hf⟩ := bnd hf
  refine v_callS_i (As := [.int x1, .int (gI S 5)]) (rest := []) (r := q1) (S1 := S) g hK hA (c_MX_in hq) (kcM_X_102 g.2.2.2.2 rfl rfl (Nat.le_of_ble_eq_true rfl) (Nat.le_of_ble_eq_true rfl)) rfl rfl (Nat.le_of_ble_eq_true rfl) dk_1_wants_5 (Nat.zero_le _) (Nat.zero_le _) (pc' := 8) rfl ?_
  refine v_if_eq (tgt := 22) (pc' := 11) g dk_1_wants_8 (by decide) rfl (fun hc => ?_) (fun hc => ?_)
  · replace hf := ifT hc hf
    refine v_iconst (v := 0) g dk_1_wants_22 (by decide) (pc' := 23) rfl ?_
    exact v_zret g hr hlk hK rfl (Option.some.inj hf) dk_1_wants_23
  · replace hf := ifF hc hf
    refine v_iload_n g dk_1_wants_11 2 rfl rfl (pc' := 12) rfl ?_
    refine v_aload_n g dk_1_wants_12 0 rfl rfl (pc' := 13) rfl ?_
    refine gfM_X_116 g hK dk_1_wants_13 (pc' := 16) rfl ?_
    obtain ⟨q2, hq, hf⟩ := bnd hf
    refine v_callS_i (As := [.int x2, .int (gI S 3)]) (rest := []) (r := q2) (S1 := S) g hK hA (c_MX_in hq) (kcM_X_102 g.2.2.2.2 rfl rfl (Nat.le_of_ble_eq_true rfl) (Nat.le_of_ble_eq_true rfl)) rfl rfl (Nat.le_of_ble_eq_true rfl) dk_1_wants_16 (Nat.zero_le _) (Nat.zero_le _) (pc' := 19) rfl ?_
    refine v_if_ne (tgt := 24) (pc' := 22) g dk_1_wants_19 (by decide) rfl (fun hc => ?_) (fun hc => ?_)
    · replace hf := ifF hc hf
      refine v_aload_n g dk_1_wants_24 0 rfl rfl (pc' := 25) rfl ?_
      refine gfM_X_62 g hK dk_1_wants_25 (pc' := 28) rfl ?_
      refine v_iload_n g dk_1_wants_28 1 rfl rfl (pc' := 29) rfl ?_
      refine v_iload_n g dk_1_wants_29 2 rfl rfl (pc' := 30) rfl ?_
      obtain ⟨hb3, hf⟩ := grd hf
      refine asM_18 g hK hb3 dk_1_wants_30 (pc' := 31) rfl ?_
      refine v_aload_n g dk_1_wants_31 0 rfl rfl (pc' := 32) rfl ?_
      refine gfM_X_65 g hK dk_1_wants_32 (pc' := 35) rfl ?_
      refine v_iload_n g dk_1_wants_35 2 rfl rfl (pc' := 36) rfl ?_
      refine v_iconst (v := 1) g dk_1_wants_36 (by decide) (pc' := 37) rfl ?_
      obtain ⟨hb4, hf⟩ := grd hf
      refine asM_19 g hK hb4 dk_1_wants_37 (pc' := 38) rfl ?_
      refine v_iconst (v := 1) g dk_1_wants_38 (by decide) (pc' := 39) rfl ?_
      exact v_zret g hr hlk hK rfl (Option.some.inj hf) dk_1_wants_39
    · replace hf := ifT hc hf
      refine v_iconst (v := 0) g dk_1_wants_22 (by decide) (pc' := 23) rfl ?_
      exact v_zret g hr hlk hK rfl (Option.some.inj hf) dk_1_wants_23
abbrev rm_MX_select : Room := { frames := 1, cells := 0, slots := 0, locals := 21 }
def m_MX_select (S : StM) (x1 : Int32) : Option (Int32 × StM) :=
  (m_MX_in S x1 (gI S 5)).bind fun q1 =>
    if q1 = 0 then some ((-1), S)
    else if (gI S 4) = 24 then some ((-1), S)
    else if inb (gI S 4) 24 = true then some (((gI S 4) + (1 : Int32)) - (1 : Int32), sI (tA S 10 (gI S 4) x1) 4 ((gI S 4) + (1 : Int32))) else none
set_option maxHeartbeats 4000000 in
set_option maxRecDepth 100000 in
theorem c_MX_select {l : Launch} {D : va_G} {ad : Nat → Nat} {ca : Nat → ClassId} {S : StM} {x1 : Int32} {r : Int32 × StM} (hf : m_MX_select S x1 = some r) : KIM l D ad ca yk_1_select (.code yk_1_select bk_1_select 2 (some .int) :: tb) rm_MX_select [.ref (ad 0), .int x1] S r := by
  refine met_i (by decide) (Nat.le_of_ble_eq_true rfl) (fun p e s m below meth c A g hr hlk hK hA => ?_)
  replace g : CallFix p m c bk_1_select 2 s _ tb Rk_1 := g
  refine v_lv (lv' := [(0, .ref (ad 0)), (1, .int x1)]) rfl ?_
  unfold m_MX_select at hf
  refine v_iload_n g dk_1_select_0 1 rfl rfl (pc' := 1) rfl ?_
  refine v_aload_n g dk_1_select_1 0 rfl rfl (pc' := 2) rfl ?_
  refine gfM_X_138 g hK dk_1_select_2 (pc' := 5) rfl ?_
  obtain ⟨q1, hq, hf⟩ := bnd hf
  refine v_callS_i (As := [.int x1, .int (gI S 5)]) (rest := []) (r := q1) (S1 := S) g hK hA (c_MX_in hq) (kcM_X_102 g.2.2.2.2 rfl rfl (Nat.le_of_ble_eq_true rfl) (Nat.le_of_ble_eq_true rfl)) rfl rfl (Nat.le_of_ble_eq_true rfl) dk_1_select_5 (Nat.zero_le _) (Nat.zero_le _) (pc' := 8) rfl ?_
  refine v_if_eq (tgt := 20) (pc' := 11) g dk_1_select_8 (by decide) rfl (fun hc => ?_) (fun hc => ?_)
  · replace hf := ifT hc hf
    refine v_iconst (v := (-1)) g dk_1_select_20 (by decide) (pc' := 21) rfl ?_
    exact v_iret g hr hlk hK  (Option.some.inj hf) dk_1_select_21
  · replace hf := ifF hc hf
    refine v_aload_n g dk_1_select_11 0 rfl rfl (pc' := 12) rfl ?_
    refine gfM_X_119 g hK dk_1_select_12 (pc' := 15) rfl ?_
    refine v_bipush (v := 24) g dk_1_select_15 (by decide) (pc' := 17) rfl ?_
    refine v_icmp_ne (tgt := 22) (pc' := 20) g dk_1_select_17 (by decide) rfl (fun hc => ?_) (fun hc => ?_)
    · replace hf := ifF hc hf
      refine v_aload_n g dk_1_select_22 0 rfl rfl (pc' := 23) rfl ?_
      refine gfM_X_41 g hK dk_1_select_23 (pc' := 26) rfl ?_
      refine v_aload_n g dk_1_select_26 0 rfl rfl (pc' := 27) rfl ?_
      refine gfM_X_119 g hK dk_1_select_27 (pc' := 30) rfl ?_
      refine v_iload_n g dk_1_select_30 1 rfl rfl (pc' := 31) rfl ?_
      obtain ⟨hb2, hf⟩ := grd hf
      refine asM_11 g hK hb2 dk_1_select_31 (pc' := 32) rfl ?_
      refine v_aload_n g dk_1_select_32 0 rfl rfl (pc' := 33) rfl ?_
      refine v_dup g dk_1_select_33 rfl (pc' := 34) rfl ?_
      refine gfM_X_119 g hK dk_1_select_34 (pc' := 37) rfl ?_
      refine v_iconst (v := 1) g dk_1_select_37 (by decide) (pc' := 38) rfl ?_
      refine v_iadd g dk_1_select_38 (pc' := 39) rfl ?_
      refine pfM_X_119 g hK dk_1_select_39 (pc' := 42) rfl ?_
      refine v_aload_n g dk_1_select_42 0 rfl rfl (pc' := 43) rfl ?_
      refine gfM_X_119 g hK dk_1_select_43 (pc' := 46) rfl ?_
      refine v_iconst (v := 1) g dk_1_select_46 (by decide) (pc' := 47) rfl ?_
      refine v_isub g dk_1_select_47 (pc' := 48) rfl ?_
      exact v_iret g hr hlk hK  (Option.some.inj hf) dk_1_select_48
    · replace hf := ifT hc hf
      refine v_iconst (v := (-1)) g dk_1_select_20 (by decide) (pc' := 21) rfl ?_
      exact v_iret g hr hlk hK  (Option.some.inj hf) dk_1_select_21
abbrev rm_MX_hasNested : Room := { frames := 0, cells := 0, slots := 0, locals := 0 }
def L_MX_hasNested_7 (S : StM) (x1 : Int32) : Nat → Int32 → Int32 → Option (Int32)
  | 0, _, _ => none
  | n + 1, x2, x3 =>
    if inb x1 24 = true then if (((8 : Int32) * x1) + (gA S 11 x1.toNatClampNeg)) ≤ x3 then some x2
    else if x2 = 0 then if inb x3 192 = true then if (gA S 15 x3.toNatClampNeg) = 0 then L_MX_hasNested_7 S x1 n 0 (x3 + 1)
    else L_MX_hasNested_7 S x1 n 1 (x3 + 1) else none
    else L_MX_hasNested_7 S x1 n 1 (x3 + 1) else none
set_option maxHeartbeats 4000000 in
set_option maxRecDepth 100000 in
theorem w_MX_hasNested_7 {p : Program} {l : Launch} {e : Env} {s : State} {m : MethodId} {args : Array Value} {below : List Frame} {meth : Method} {c : Code} {A : Nat → Prop} {D : va_G} {ad : Nat → Nat} {ca : Nat → ClassId} {Rm : Int32 × StM} {S : StM} {x1 : Int32} (g : CallFix p m c bk_1_hasNested 4 s args tb Rk_1) (hr : meth.sig.returnType = some .boolean) (hlk : meth.locks = false) (hK : va_K D vwCl (tyM ca) s) (hA : ∀ q, s.heap.size ≤ q → A q) : ∀ (n : Nat) (x2 : Int32) (x3 : Int32) (o : Int32), L_MX_hasNested_7 S x1 n x2 x3 = some o → (Vj p l e rm_MX_hasNested s m args below meth c (MQ below (qI D vwCl (tyM ca) (wdM ad ca) A Rm) args s 0 0 A) D vwCl A 4 0 0 (wdM ad ca S) 47 [(2, .int o)] []) → Vj p l e rm_MX_hasNested s m args below meth c (MQ below (qI D vwCl (tyM ca) (wdM ad ca) A Rm) args s 0 0 A) D vwCl A 4 0 0 (wdM ad ca S) 7 [(0, .ref (ad 0)), (1, .int x1), (2, .int x2), (3, .int x3)] [] := by
  intro n
  induction n with
  | zero => intro x2 x3 o hf; exact nomatch (show none = some o from hf)
  | succ n ih =>
    intro x2 x3 o hf hx
    rw [L_MX_hasNested_7] at hf
    refine v_iload_n g dk_1_hasNested_7 3 rfl rfl (pc' := 8) rfl ?_
    refine v_bipush (v := 8) g dk_1_hasNested_8 (by decide) (pc' := 10) rfl ?_
    refine v_iload_n g dk_1_hasNested_10 1 rfl rfl (pc' := 11) rfl ?_
    refine v_imul g dk_1_hasNested_11 (pc' := 12) rfl ?_
    refine v_aload_n g dk_1_hasNested_12 0 rfl rfl (pc' := 13) rfl ?_
    refine gfM_X_44 g hK dk_1_hasNested_13 (pc' := 16) rfl ?_
    refine v_iload_n g dk_1_hasNested_16 1 rfl rfl (pc' := 17) rfl ?_
    obtain ⟨hb1, hf⟩ := grd hf
    refine alM_12 g hK hb1 dk_1_hasNested_17 (pc' := 18) rfl ?_
    refine v_iadd g dk_1_hasNested_18 (pc' := 19) rfl ?_
    refine v_icmp_ge (tgt := 47) (pc' := 22) g dk_1_hasNested_19 (by decide) rfl (fun hc => ?_) (fun hc => ?_)
    · replace hf := ifT hc hf
      refine v_sub [2] rfl ?_
      have e9 := Option.some.inj hf
      subst e9
      exact hx
    · replace hf := ifF hc hf
      refine v_iload_n g dk_1_hasNested_22 2 rfl rfl (pc' := 23) rfl ?_
      refine v_if_ne (tgt := 35) (pc' := 26) g dk_1_hasNested_23 (by decide) rfl (fun hc => ?_) (fun hc => ?_)
      · replace hf := ifF hc hf
        refine v_iconst (v := 1) g dk_1_hasNested_35 (by decide) (pc' := 36) rfl ?_
        refine v_goto (tgt := 40) g dk_1_hasNested_36 (by decide) ?_
        refine v_istore_n (lv' := [(2, .int 1), (0, .ref (ad 0)), (1, .int x1), (3, .int x3)]) g dk_1_hasNested_40 rfl (by decide) rfl (pc' := 41) rfl ?_
        refine v_iinc (j := 3) (v := x3 + 1) (lv' := [(3, .int (x3 + 1)), (2, .int 1), (0, .ref (ad 0)), (1, .int x1)]) g dk_1_hasNested_41 rfl rfl (by decide) rfl (pc' := 44) rfl ?_
        refine v_goto (tgt := 7) g dk_1_hasNested_44 (by decide) ?_
        refine v_sub [2, 3, 1, 0] rfl ?_
        exact ih 1 (x3 + 1) o hf hx
      · replace hf := ifT hc hf
        refine v_aload_n g dk_1_hasNested_26 0 rfl rfl (pc' := 27) rfl ?_
        refine gfM_X_56 g hK dk_1_hasNested_27 (pc' := 30) rfl ?_
        refine v_iload_n g dk_1_hasNested_30 3 rfl rfl (pc' := 31) rfl ?_
        obtain ⟨hb2, hf⟩ := grd hf
        refine alM_16 g hK hb2 dk_1_hasNested_31 (pc' := 32) rfl ?_
        refine v_if_eq (tgt := 39) (pc' := 35) g dk_1_hasNested_32 (by decide) rfl (fun hc => ?_) (fun hc => ?_)
        · replace hf := ifT hc hf
          refine v_iconst (v := 0) g dk_1_hasNested_39 (by decide) (pc' := 40) rfl ?_
          refine v_istore_n (lv' := [(2, .int 0), (0, .ref (ad 0)), (1, .int x1), (3, .int x3)]) g dk_1_hasNested_40 rfl (by decide) rfl (pc' := 41) rfl ?_
          refine v_iinc (j := 3) (v := x3 + 1) (lv' := [(3, .int (x3 + 1)), (2, .int 0), (0, .ref (ad 0)), (1, .int x1)]) g dk_1_hasNested_41 rfl rfl (by decide) rfl (pc' := 44) rfl ?_
          refine v_goto (tgt := 7) g dk_1_hasNested_44 (by decide) ?_
          refine v_sub [2, 3, 1, 0] rfl ?_
          exact ih 0 (x3 + 1) o hf hx
        · replace hf := ifF hc hf
          refine v_iconst (v := 1) g dk_1_hasNested_35 (by decide) (pc' := 36) rfl ?_
          refine v_goto (tgt := 40) g dk_1_hasNested_36 (by decide) ?_
          refine v_istore_n (lv' := [(2, .int 1), (0, .ref (ad 0)), (1, .int x1), (3, .int x3)]) g dk_1_hasNested_40 rfl (by decide) rfl (pc' := 41) rfl ?_
          refine v_iinc (j := 3) (v := x3 + 1) (lv' := [(3, .int (x3 + 1)), (2, .int 1), (0, .ref (ad 0)), (1, .int x1)]) g dk_1_hasNested_41 rfl rfl (by decide) rfl (pc' := 44) rfl ?_
          refine v_goto (tgt := 7) g dk_1_hasNested_44 (by decide) ?_
          refine v_sub [2, 3, 1, 0] rfl ?_
          exact ih 1 (x3 + 1) o hf hx
def m_MX_hasNested (S : StM) (x1 : Int32) : Option Int32 :=
  (L_MX_hasNested_7 S x1 100 0 ((8 : Int32) * x1)).bind fun y4 =>
    if isB y4 = true then some y4 else none
set_option maxHeartbeats 4000000 in
set_option maxRecDepth 100000 in
theorem c_MX_hasNested {l : Launch} {D : va_G} {ad : Nat → Nat} {ca : Nat → ClassId} {S : StM} {x1 : Int32} {r : Int32} (hf : m_MX_hasNested S x1 = some r) : KIM l D ad ca yk_1_hasNested (.code yk_1_hasNested bk_1_hasNested 4 (some .boolean) :: tb) rm_MX_hasNested [.ref (ad 0), .int x1] S (r, S) := by
  refine met_z (by decide) (Nat.le_of_ble_eq_true rfl) (fun p e s m below meth c A g hr hlk hK hA => ?_)
  replace g : CallFix p m c bk_1_hasNested 4 s _ tb Rk_1 := g
  refine v_lv (lv' := [(0, .ref (ad 0)), (1, .int x1)]) rfl ?_
  unfold m_MX_hasNested at hf
  refine v_iconst (v := 0) g dk_1_hasNested_0 (by decide) (pc' := 1) rfl ?_
  refine v_istore_n (lv' := [(2, .int 0), (0, .ref (ad 0)), (1, .int x1)]) g dk_1_hasNested_1 rfl (by decide) rfl (pc' := 2) rfl ?_
  refine v_bipush (v := 8) g dk_1_hasNested_2 (by decide) (pc' := 4) rfl ?_
  refine v_iload_n g dk_1_hasNested_4 2 rfl rfl (pc' := 5) rfl ?_
  refine v_imul g dk_1_hasNested_5 (pc' := 6) rfl ?_
  refine v_istore_n (lv' := [(3, .int ((8 : Int32) * x1)), (2, .int 0), (0, .ref (ad 0)), (1, .int x1)]) g dk_1_hasNested_6 rfl (by decide) rfl (pc' := 7) rfl ?_
  refine v_sub [2, 3, 1, 0] rfl ?_
  obtain ⟨y4, hL, hf⟩ := bnd hf
  refine w_MX_hasNested_7 g hr hlk hK hA 100 0 ((8 : Int32) * x1) _ hL ?_
  refine v_iload_n g dk_1_hasNested_47 0 rfl rfl (pc' := 48) rfl ?_
  obtain ⟨hz, hf⟩ := grd hf
  exact v_zret g hr hlk hK hz (pinj hf) dk_1_hasNested_48
abbrev rm_MX_isWithin : Room := { frames := 0, cells := 0, slots := 0, locals := 0 }
def L_MX_isWithin_18 (S : StM) (x1 : Int32) (x3 : Int32) : Nat → Int32 → Int32 → Option (Int32)
  | 0, _, _ => none
  | n + 1, x2, x4 =>
    if inb x3 24 = true then if (((8 : Int32) * x3) + (gA S 11 x3.toNatClampNeg)) ≤ x4 then some x2
    else if x2 = 0 then if inb x4 192 = true then if (gA S 15 x4.toNatClampNeg) = 0 then L_MX_isWithin_18 S x1 x3 n 0 (x4 + 1)
    else if (gA S 13 x4.toNatClampNeg) = x1 then L_MX_isWithin_18 S x1 x3 n 1 (x4 + 1)
    else L_MX_isWithin_18 S x1 x3 n 0 (x4 + 1) else none
    else L_MX_isWithin_18 S x1 x3 n 1 (x4 + 1) else none
set_option maxHeartbeats 4000000 in
set_option maxRecDepth 100000 in
theorem w_MX_isWithin_18 {p : Program} {l : Launch} {e : Env} {s : State} {m : MethodId} {args : Array Value} {below : List Frame} {meth : Method} {c : Code} {A : Nat → Prop} {D : va_G} {ad : Nat → Nat} {ca : Nat → ClassId} {Rm : Int32 × StM} {S : StM} {x1 : Int32} {x3 : Int32} (g : CallFix p m c bk_1_isWithin 5 s args tb Rk_1) (hr : meth.sig.returnType = some .boolean) (hlk : meth.locks = false) (hK : va_K D vwCl (tyM ca) s) (hA : ∀ q, s.heap.size ≤ q → A q) : ∀ (n : Nat) (x2 : Int32) (x4 : Int32) (o : Int32), L_MX_isWithin_18 S x1 x3 n x2 x4 = some o → (Vj p l e rm_MX_isWithin s m args below meth c (MQ below (qI D vwCl (tyM ca) (wdM ad ca) A Rm) args s 0 0 A) D vwCl A 5 0 0 (wdM ad ca S) 71 [(0, .ref (ad 0)), (1, .int x1), (2, .int o), (3, .int x3)] []) → Vj p l e rm_MX_isWithin s m args below meth c (MQ below (qI D vwCl (tyM ca) (wdM ad ca) A Rm) args s 0 0 A) D vwCl A 5 0 0 (wdM ad ca S) 18 [(0, .ref (ad 0)), (1, .int x1), (2, .int x2), (3, .int x3), (4, .int x4)] [] := by
  intro n
  induction n with
  | zero => intro x2 x4 o hf; exact nomatch (show none = some o from hf)
  | succ n ih =>
    intro x2 x4 o hf hx
    rw [L_MX_isWithin_18] at hf
    refine v_iload g dk_1_isWithin_18 4 rfl (pc' := 20) rfl ?_
    refine v_bipush (v := 8) g dk_1_isWithin_20 (by decide) (pc' := 22) rfl ?_
    refine v_iload_n g dk_1_isWithin_22 3 rfl rfl (pc' := 23) rfl ?_
    refine v_imul g dk_1_isWithin_23 (pc' := 24) rfl ?_
    refine v_aload_n g dk_1_isWithin_24 0 rfl rfl (pc' := 25) rfl ?_
    refine gfM_X_44 g hK dk_1_isWithin_25 (pc' := 28) rfl ?_
    refine v_iload_n g dk_1_isWithin_28 3 rfl rfl (pc' := 29) rfl ?_
    obtain ⟨hb1, hf⟩ := grd hf
    refine alM_12 g hK hb1 dk_1_isWithin_29 (pc' := 30) rfl ?_
    refine v_iadd g dk_1_isWithin_30 (pc' := 31) rfl ?_
    refine v_icmp_ge (tgt := 71) (pc' := 34) g dk_1_isWithin_31 (by decide) rfl (fun hc => ?_) (fun hc => ?_)
    · replace hf := ifT hc hf
      refine v_sub [0, 1, 2, 3] rfl ?_
      have e9 := Option.some.inj hf
      subst e9
      exact hx
    · replace hf := ifF hc hf
      refine v_iload_n g dk_1_isWithin_34 2 rfl rfl (pc' := 35) rfl ?_
      refine v_if_ne (tgt := 59) (pc' := 38) g dk_1_isWithin_35 (by decide) rfl (fun hc => ?_) (fun hc => ?_)
      · replace hf := ifF hc hf
        refine v_iconst (v := 1) g dk_1_isWithin_59 (by decide) (pc' := 60) rfl ?_
        refine v_goto (tgt := 64) g dk_1_isWithin_60 (by decide) ?_
        refine v_istore_n (lv' := [(2, .int 1), (0, .ref (ad 0)), (1, .int x1), (3, .int x3), (4, .int x4)]) g dk_1_isWithin_64 rfl (by decide) rfl (pc' := 65) rfl ?_
        refine v_iinc (j := 4) (v := x4 + 1) (lv' := [(4, .int (x4 + 1)), (2, .int 1), (0, .ref (ad 0)), (1, .int x1), (3, .int x3)]) g dk_1_isWithin_65 rfl rfl (by decide) rfl (pc' := 68) rfl ?_
        refine v_goto (tgt := 18) g dk_1_isWithin_68 (by decide) ?_
        refine v_sub [2, 3, 1, 4, 0] rfl ?_
        exact ih 1 (x4 + 1) o hf hx
      · replace hf := ifT hc hf
        refine v_aload_n g dk_1_isWithin_38 0 rfl rfl (pc' := 39) rfl ?_
        refine gfM_X_56 g hK dk_1_isWithin_39 (pc' := 42) rfl ?_
        refine v_iload g dk_1_isWithin_42 4 rfl (pc' := 44) rfl ?_
        obtain ⟨hb2, hf⟩ := grd hf
        refine alM_16 g hK hb2 dk_1_isWithin_44 (pc' := 45) rfl ?_
        refine v_if_eq (tgt := 63) (pc' := 48) g dk_1_isWithin_45 (by decide) rfl (fun hc => ?_) (fun hc => ?_)
        · replace hf := ifT hc hf
          refine v_iconst (v := 0) g dk_1_isWithin_63 (by decide) (pc' := 64) rfl ?_
          refine v_istore_n (lv' := [(2, .int 0), (0, .ref (ad 0)), (1, .int x1), (3, .int x3), (4, .int x4)]) g dk_1_isWithin_64 rfl (by decide) rfl (pc' := 65) rfl ?_
          refine v_iinc (j := 4) (v := x4 + 1) (lv' := [(4, .int (x4 + 1)), (2, .int 0), (0, .ref (ad 0)), (1, .int x1), (3, .int x3)]) g dk_1_isWithin_65 rfl rfl (by decide) rfl (pc' := 68) rfl ?_
          refine v_goto (tgt := 18) g dk_1_isWithin_68 (by decide) ?_
          refine v_sub [2, 3, 1, 4, 0] rfl ?_
          exact ih 0 (x4 + 1) o hf hx
        · replace hf := ifF hc hf
          refine v_aload_n g dk_1_isWithin_48 0 rfl rfl (pc' := 49) rfl ?_
          refine gfM_X_50 g hK dk_1_isWithin_49 (pc' := 52) rfl ?_
          refine v_iload g dk_1_isWithin_52 4 rfl (pc' := 54) rfl ?_
          refine alM_14 g hK hb2 dk_1_isWithin_54 (pc' := 55) rfl ?_
          refine v_iload_n g dk_1_isWithin_55 1 rfl rfl (pc' := 56) rfl ?_
          refine v_icmp_ne (tgt := 63) (pc' := 59) g dk_1_isWithin_56 (by decide) rfl (fun hc => ?_) (fun hc => ?_)
          · replace hf := ifF hc hf
            refine v_iconst (v := 0) g dk_1_isWithin_63 (by decide) (pc' := 64) rfl ?_
            refine v_istore_n (lv' := [(2, .int 0), (0, .ref (ad 0)), (1, .int x1), (3, .int x3), (4, .int x4)]) g dk_1_isWithin_64 rfl (by decide) rfl (pc' := 65) rfl ?_
            refine v_iinc (j := 4) (v := x4 + 1) (lv' := [(4, .int (x4 + 1)), (2, .int 0), (0, .ref (ad 0)), (1, .int x1), (3, .int x3)]) g dk_1_isWithin_65 rfl rfl (by decide) rfl (pc' := 68) rfl ?_
            refine v_goto (tgt := 18) g dk_1_isWithin_68 (by decide) ?_
            refine v_sub [2, 3, 1, 4, 0] rfl ?_
            exact ih 0 (x4 + 1) o hf hx
          · replace hf := ifT hc hf
            refine v_iconst (v := 1) g dk_1_isWithin_59 (by decide) (pc' := 60) rfl ?_
            refine v_goto (tgt := 64) g dk_1_isWithin_60 (by decide) ?_
            refine v_istore_n (lv' := [(2, .int 1), (0, .ref (ad 0)), (1, .int x1), (3, .int x3), (4, .int x4)]) g dk_1_isWithin_64 rfl (by decide) rfl (pc' := 65) rfl ?_
            refine v_iinc (j := 4) (v := x4 + 1) (lv' := [(4, .int (x4 + 1)), (2, .int 1), (0, .ref (ad 0)), (1, .int x1), (3, .int x3)]) g dk_1_isWithin_65 rfl rfl (by decide) rfl (pc' := 68) rfl ?_
            refine v_goto (tgt := 18) g dk_1_isWithin_68 (by decide) ?_
            refine v_sub [2, 3, 1, 4, 0] rfl ?_
            exact ih 1 (x4 + 1) o hf hx
def L_MX_isWithin_4 (S : StM) (x1 : Int32) : Nat → Int32 → Int32 → Option (Int32)
  | 0, _, _ => none
  | n + 1, x2, x3 =>
    if (gI S 4) ≤ x3 then some x2
    else (L_MX_isWithin_18 S x1 x3 100 x2 ((8 : Int32) * x3)).bind fun y4 =>
    L_MX_isWithin_4 S x1 n y4 (x3 + 1)
set_option maxHeartbeats 4000000 in
set_option maxRecDepth 100000 in
theorem w_MX_isWithin_4 {p : Program} {l : Launch} {e : Env} {s : State} {m : MethodId} {args : Array Value} {below : List Frame} {meth : Method} {c : Code} {A : Nat → Prop} {D : va_G} {ad : Nat → Nat} {ca : Nat → ClassId} {Rm : Int32 × StM} {S : StM} {x1 : Int32} (g : CallFix p m c bk_1_isWithin 5 s args tb Rk_1) (hr : meth.sig.returnType = some .boolean) (hlk : meth.locks = false) (hK : va_K D vwCl (tyM ca) s) (hA : ∀ q, s.heap.size ≤ q → A q) : ∀ (n : Nat) (x2 : Int32) (x3 : Int32) (o : Int32), L_MX_isWithin_4 S x1 n x2 x3 = some o → (Vj p l e rm_MX_isWithin s m args below meth c (MQ below (qI D vwCl (tyM ca) (wdM ad ca) A Rm) args s 0 0 A) D vwCl A 5 0 0 (wdM ad ca S) 77 [(2, .int o)] []) → Vj p l e rm_MX_isWithin s m args below meth c (MQ below (qI D vwCl (tyM ca) (wdM ad ca) A Rm) args s 0 0 A) D vwCl A 5 0 0 (wdM ad ca S) 4 [(0, .ref (ad 0)), (1, .int x1), (2, .int x2), (3, .int x3)] [] := by
  intro n
  induction n with
  | zero => intro x2 x3 o hf; exact nomatch (show none = some o from hf)
  | succ n ih =>
    intro x2 x3 o hf hx
    rw [L_MX_isWithin_4] at hf
    refine v_iload_n g dk_1_isWithin_4 3 rfl rfl (pc' := 5) rfl ?_
    refine v_aload_n g dk_1_isWithin_5 0 rfl rfl (pc' := 6) rfl ?_
    refine gfM_X_119 g hK dk_1_isWithin_6 (pc' := 9) rfl ?_
    refine v_icmp_ge (tgt := 77) (pc' := 12) g dk_1_isWithin_9 (by decide) rfl (fun hc => ?_) (fun hc => ?_)
    · replace hf := ifT hc hf
      refine v_sub [2] rfl ?_
      have e9 := Option.some.inj hf
      subst e9
      exact hx
    · replace hf := ifF hc hf
      refine v_bipush (v := 8) g dk_1_isWithin_12 (by decide) (pc' := 14) rfl ?_
      refine v_iload_n g dk_1_isWithin_14 3 rfl rfl (pc' := 15) rfl ?_
      refine v_imul g dk_1_isWithin_15 (pc' := 16) rfl ?_
      refine v_istore (lv' := [(4, .int ((8 : Int32) * x3)), (0, .ref (ad 0)), (1, .int x1), (2, .int x2), (3, .int x3)]) g dk_1_isWithin_16 (by decide) rfl (pc' := 18) rfl ?_
      refine v_sub [1, 2, 3, 4, 0] rfl ?_
      obtain ⟨y4, hL, hf⟩ := bnd hf
      refine w_MX_isWithin_18 g hr hlk hK hA 100 x2 ((8 : Int32) * x3) _ hL ?_
      refine v_iinc (j := 3) (v := x3 + 1) (lv' := [(3, .int (x3 + 1)), (0, .ref (ad 0)), (1, .int x1), (2, .int y4)]) g dk_1_isWithin_71 rfl rfl (by decide) rfl (pc' := 74) rfl ?_
      refine v_goto (tgt := 4) g dk_1_isWithin_74 (by decide) ?_
      refine v_sub [1, 2, 3, 0] rfl ?_
      exact ih y4 (x3 + 1) o hf hx
def m_MX_isWithin (S : StM) (x1 : Int32) : Option Int32 :=
  (L_MX_isWithin_4 S x1 100 0 0).bind fun y6 =>
    if isB y6 = true then some y6 else none
set_option maxHeartbeats 4000000 in
set_option maxRecDepth 100000 in
theorem c_MX_isWithin {l : Launch} {D : va_G} {ad : Nat → Nat} {ca : Nat → ClassId} {S : StM} {x1 : Int32} {r : Int32} (hf : m_MX_isWithin S x1 = some r) : KIM l D ad ca yk_1_isWithin (.code yk_1_isWithin bk_1_isWithin 5 (some .boolean) :: tb) rm_MX_isWithin [.ref (ad 0), .int x1] S (r, S) := by
  refine met_z (by decide) (Nat.le_of_ble_eq_true rfl) (fun p e s m below meth c A g hr hlk hK hA => ?_)
  replace g : CallFix p m c bk_1_isWithin 5 s _ tb Rk_1 := g
  refine v_lv (lv' := [(0, .ref (ad 0)), (1, .int x1)]) rfl ?_
  unfold m_MX_isWithin at hf
  refine v_iconst (v := 0) g dk_1_isWithin_0 (by decide) (pc' := 1) rfl ?_
  refine v_istore_n (lv' := [(2, .int 0), (0, .ref (ad 0)), (1, .int x1)]) g dk_1_isWithin_1 rfl (by decide) rfl (pc' := 2) rfl ?_
  refine v_iconst (v := 0) g dk_1_isWithin_2 (by decide) (pc' := 3) rfl ?_
  refine v_istore_n (lv' := [(3, .int 0), (2, .int 0), (0, .ref (ad 0)), (1, .int x1)]) g dk_1_isWithin_3 rfl (by decide) rfl (pc' := 4) rfl ?_
  refine v_sub [2, 3, 1, 0] rfl ?_
  obtain ⟨y6, hL, hf⟩ := bnd hf
  refine w_MX_isWithin_4 g hr hlk hK hA 100 0 0 _ hL ?_
  refine v_iload_n g dk_1_isWithin_77 0 rfl rfl (pc' := 78) rfl ?_
  obtain ⟨hz, hf⟩ := grd hf
  exact v_zret g hr hlk hK hz (pinj hf) dk_1_isWithin_78
