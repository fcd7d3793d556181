abbrev rm_MX_mostSpecial : Room := { frames := 5, cells := 0, slots := 0, locals := 116 }
def L_MX_mostSpecial_5 (S : StM) (x1 : Int32) (x2 : Int32) : Nat → Int32 → Int32 → Option (Int32)
  | 0, _, _ => none
  | n + 1, x3, x4 =>
    if inb x1 24 = true then if (gA S 11 x1.toNatClampNeg) ≤ x4 then some x3
    else if inb (((8 : Int32) * x1) + x4) 192 = true then (m_MX_isHolding S (gA S 12 (((8 : Int32) * x1) + x4).toNatClampNeg) x2).bind fun q3 =>
    if q3 = 0 then L_MX_mostSpecial_5 S x1 x2 n (x3 ||| (0 : Int32)) (x4 + 1)
    else L_MX_mostSpecial_5 S x1 x2 n (x3 ||| ((1 : Int32) <<< (x4 &&& 31))) (x4 + 1) else none else none
set_option maxHeartbeats 4000000 in
set_option maxRecDepth 100000 in
theorem w_MX_mostSpecial_5 {p : Program} {l : Launch} {e : Env} {s : State} {m : MethodId} {args : Array Value} {below : List Frame} {meth : Method} {c : Code} {A : Nat → Prop} {D : va_G} {ad : Nat → Nat} {ca : Nat → ClassId} {Rm : Int32 × StM} {S : StM} {x1 : Int32} {x2 : Int32} (g : CallFix p m c bk_1_mostSpecial 8 s args tb Rk_1) (hr : meth.sig.returnType = some .int) (hlk : meth.locks = false) (hK : va_K D vwCl (tyM ca) s) (hA : ∀ q, s.heap.size ≤ q → A q) : ∀ (n : Nat) (x3 : Int32) (x4 : Int32) (o : Int32), L_MX_mostSpecial_5 S x1 x2 n x3 x4 = some o → (Vj p l e rm_MX_mostSpecial s m args below meth c (MQ below (qI D vwCl (tyM ca) (wdM ad ca) A Rm) args s 0 0 A) D vwCl A 8 0 0 (wdM ad ca S) 53 [(0, .ref (ad 0)), (1, .int x1), (3, .int o)] []) → Vj p l e rm_MX_mostSpecial s m args below meth c (MQ below (qI D vwCl (tyM ca) (wdM ad ca) A Rm) args s 0 0 A) D vwCl A 8 0 0 (wdM ad ca S) 5 [(0, .ref (ad 0)), (1, .int x1), (2, .int x2), (3, .int x3), (4, .int x4)] [] := by
  intro n
  induction n with
  | zero => intro x3 x4 o hf; exact nomatch (show none = some o from hf)
  | succ n ih =>
    intro x3 x4 o hf hx
    rw [L_MX_mostSpecial_5] at hf
    refine v_iload g dk_1_mostSpecial_5 4 rfl (pc' := 7) rfl ?_
    refine v_aload_n g dk_1_mostSpecial_7 0 rfl rfl (pc' := 8) rfl ?_
    refine gfM_X_44 g hK dk_1_mostSpecial_8 (pc' := 11) rfl ?_
    refine v_iload_n g dk_1_mostSpecial_11 1 rfl rfl (pc' := 12) rfl ?_
    obtain ⟨hb1, hf⟩ := grd hf
    refine alM_12 g hK hb1 dk_1_mostSpecial_12 (pc' := 13) rfl ?_
    refine v_icmp_ge (tgt := 53) (pc' := 16) g dk_1_mostSpecial_13 (by decide) rfl (fun hc => ?_) (fun hc => ?_)
    · replace hf := ifT hc hf
      refine v_sub [0, 1, 3] rfl ?_
      have e9 := Option.some.inj hf
      subst e9
      exact hx
    · replace hf := ifF hc hf
      refine v_iload_n g dk_1_mostSpecial_16 3 rfl rfl (pc' := 17) rfl ?_
      refine v_aload_n g dk_1_mostSpecial_17 0 rfl rfl (pc' := 18) rfl ?_
      refine v_aload_n g dk_1_mostSpecial_18 0 rfl rfl (pc' := 19) rfl ?_
      refine gfM_X_47 g hK dk_1_mostSpecial_19 (pc' := 22) rfl ?_
      refine v_bipush (v := 8) g dk_1_mostSpecial_22 (by decide) (pc' := 24) rfl ?_
      refine v_iload_n g dk_1_mostSpecial_24 1 rfl rfl (pc' := 25) rfl ?_
      refine v_imul g dk_1_mostSpecial_25 (pc' := 26) rfl ?_
      refine v_iload g dk_1_mostSpecial_26 4 rfl (pc' := 28) rfl ?_
      refine v_iadd g dk_1_mostSpecial_28 (pc' := 29) rfl ?_
      obtain ⟨hb2, hf⟩ := grd hf
      refine alM_13 g hK hb2 dk_1_mostSpecial_29 (pc' := 30) rfl ?_
      refine v_iload_n g dk_1_mostSpecial_30 2 rfl rfl (pc' := 31) rfl ?_
      obtain ⟨q3, hq, hf⟩ := bnd hf
      refine v_callV_i (As := [.int (gA S 12 (((8 : Int32) * x1) + x4).toNatClampNeg), .int x2]) (rest := [.int x3]) (r := q3) (S1 := S) g hK hA (c_MX_isHolding hq) (kcM_X_129 g.2.2.2.2 rfl rfl (Nat.le_of_ble_eq_true rfl) (Nat.le_of_ble_eq_true rfl)) (ci := 1) (q0 := 0) rfl rfl rfl rfl rfl (Nat.le_of_ble_eq_true rfl) dk_1_mostSpecial_31 (Nat.zero_le _) (Nat.zero_le _) (pc' := 34) rfl ?_
      refine v_if_eq (tgt := 44) (pc' := 37) g dk_1_mostSpecial_34 (by decide) rfl (fun hc => ?_) (fun hc => ?_)
      · replace hf := ifT hc hf
        refine v_iconst (v := 0) g dk_1_mostSpecial_44 (by decide) (pc' := 45) rfl ?_
        refine v_ior g dk_1_mostSpecial_45 (pc' := 46) rfl ?_
        refine v_istore_n (lv' := [(3, .int (x3 ||| (0 : Int32))), (0, .ref (ad 0)), (1, .int x1), (2, .int x2), (4, .int x4)]) g dk_1_mostSpecial_46 rfl (by decide) rfl (pc' := 47) rfl ?_
        refine v_iinc (j := 4) (v := x4 + 1) (lv' := [(4, .int (x4 + 1)), (3, .int (x3 ||| (0 : Int32))), (0, .ref (ad 0)), (1, .int x1), (2, .int x2)]) g dk_1_mostSpecial_47 rfl rfl (by decide) rfl (pc' := 50) rfl ?_
        refine v_goto (tgt := 5) g dk_1_mostSpecial_50 (by decide) ?_
        refine v_sub [2, 3, 4, 1, 0] rfl ?_
        exact ih (x3 ||| (0 : Int32)) (x4 + 1) o hf hx
      · replace hf := ifF hc hf
        refine v_iconst (v := 1) g dk_1_mostSpecial_37 (by decide) (pc' := 38) rfl ?_
        refine v_iload g dk_1_mostSpecial_38 4 rfl (pc' := 40) rfl ?_
        refine v_ishl g dk_1_mostSpecial_40 (pc' := 41) rfl ?_
        refine v_goto (tgt := 45) g dk_1_mostSpecial_41 (by decide) ?_
        refine v_ior g dk_1_mostSpecial_45 (pc' := 46) rfl ?_
        refine v_istore_n (lv' := [(3, .int (x3 ||| ((1 : Int32) <<< (x4 &&& 31)))), (0, .ref (ad 0)), (1, .int x1), (2, .int x2), (4, .int x4)]) g dk_1_mostSpecial_46 rfl (by decide) rfl (pc' := 47) rfl ?_
        refine v_iinc (j := 4) (v := x4 + 1) (lv' := [(4, .int (x4 + 1)), (3, .int (x3 ||| ((1 : Int32) <<< (x4 &&& 31)))), (0, .ref (ad 0)), (1, .int x1), (2, .int x2)]) g dk_1_mostSpecial_47 rfl rfl (by decide) rfl (pc' := 50) rfl ?_
        refine v_goto (tgt := 5) g dk_1_mostSpecial_50 (by decide) ?_
        refine v_sub [2, 3, 4, 1, 0] rfl ?_
        exact ih (x3 ||| ((1 : Int32) <<< (x4 &&& 31))) (x4 + 1) o hf hx
def L_MX_mostSpecial_73 (S : StM) (x1 : Int32) (x3 : Int32) (x5 : Int32) : Nat → Int32 → Int32 → Option (Int32)
  | 0, _, _ => none
  | n + 1, x4, x6 =>
    if inb x1 24 = true then if (gA S 11 x1.toNatClampNeg) ≤ x6 then some x4
    else if ((x3 >>> (x5 &&& 31)) &&& (1 : Int32)) = 1 then if ((x3 >>> (x6 &&& 31)) &&& (1 : Int32)) = 1 then if (1 : Int32) = 0 then L_MX_mostSpecial_73 S x1 x3 x5 n x4 (x6 + 1)
    else if inb (((8 : Int32) * x1) + x6) 192 = true then if inb (((8 : Int32) * x1) + x5) 192 = true then (m_MX_isSpecial S (gA S 12 (((8 : Int32) * x1) + x6).toNatClampNeg) (gA S 12 (((8 : Int32) * x1) + x5).toNatClampNeg)).bind fun q16 =>
    if q16 = 0 then L_MX_mostSpecial_73 S x1 x3 x5 n x4 (x6 + 1)
    else L_MX_mostSpecial_73 S x1 x3 x5 n (x4 &&& (((1 : Int32) <<< (x5 &&& 31)) ^^^ ((-1) : Int32))) (x6 + 1) else none else none
    else if (0 : Int32) = 0 then L_MX_mostSpecial_73 S x1 x3 x5 n x4 (x6 + 1)
    else if inb (((8 : Int32) * x1) + x6) 192 = true then if inb (((8 : Int32) * x1) + x5) 192 = true then (m_MX_isSpecial S (gA S 12 (((8 : Int32) * x1) + x6).toNatClampNeg) (gA S 12 (((8 : Int32) * x1) + x5).toNatClampNeg)).bind fun q13 =>
    if q13 = 0 then L_MX_mostSpecial_73 S x1 x3 x5 n x4 (x6 + 1)
    else L_MX_mostSpecial_73 S x1 x3 x5 n (x4 &&& (((1 : Int32) <<< (x5 &&& 31)) ^^^ ((-1) : Int32))) (x6 + 1) else none else none
    else if (0 : Int32) = 0 then L_MX_mostSpecial_73 S x1 x3 x5 n x4 (x6 + 1)
    else if inb (((8 : Int32) * x1) + x6) 192 = true then if inb (((8 : Int32) * x1) + x5) 192 = true then (m_MX_isSpecial S (gA S 12 (((8 : Int32) * x1) + x6).toNatClampNeg) (gA S 12 (((8 : Int32) * x1) + x5).toNatClampNeg)).bind fun q10 =>
    if q10 = 0 then L_MX_mostSpecial_73 S x1 x3 x5 n x4 (x6 + 1)
    else L_MX_mostSpecial_73 S x1 x3 x5 n (x4 &&& (((1 : Int32) <<< (x5 &&& 31)) ^^^ ((-1) : Int32))) (x6 + 1) else none else none else none
set_option maxHeartbeats 4000000 in
set_option maxRecDepth 100000 in
theorem w_MX_mostSpecial_73 {p : Program} {l : Launch} {e : Env} {s : State} {m : MethodId} {args : Array Value} {below : List Frame} {meth : Method} {c : Code} {A : Nat → Prop} {D : va_G} {ad : Nat → Nat} {ca : Nat → ClassId} {Rm : Int32 × StM} {S : StM} {x1 : Int32} {x3 : Int32} {x5 : Int32} (g : CallFix p m c bk_1_mostSpecial 8 s args tb Rk_1) (hr : meth.sig.returnType = some .int) (hlk : meth.locks = false) (hK : va_K D vwCl (tyM ca) s) (hA : ∀ q, s.heap.size ≤ q → A q) : ∀ (n : Nat) (x4 : Int32) (x6 : Int32) (o : Int32), L_MX_mostSpecial_73 S x1 x3 x5 n x4 x6 = some o → (Vj p l e rm_MX_mostSpecial s m args below meth c (MQ below (qI D vwCl (tyM ca) (wdM ad ca) A Rm) args s 0 0 A) D vwCl A 8 0 0 (wdM ad ca S) 164 [(0, .ref (ad 0)), (1, .int x1), (3, .int x3), (4, .int o), (5, .int x5)] []) → Vj p l e rm_MX_mostSpecial s m args below meth c (MQ below (qI D vwCl (tyM ca) (wdM ad ca) A Rm) args s 0 0 A) D vwCl A 8 0 0 (wdM ad ca S) 73 [(0, .ref (ad 0)), (1, .int x1), (3, .int x3), (4, .int x4), (5, .int x5), (6, .int x6)] [] := by
  intro n
  induction n with
  | zero => intro x4 x6 o hf; exact nomatch (show none = some o from hf)
  | succ n ih =>
    intro x4 x6 o hf hx
    rw [L_MX_mostSpecial_73] at hf
    refine v_iload g dk_1_mostSpecial_73 5 rfl (pc' := 75) rfl ?_
    refine v_aload_n g dk_1_mostSpecial_75 0 rfl rfl (pc' := 76) rfl ?_
    refine gfM_X_44 g hK dk_1_mostSpecial_76 (pc' := 79) rfl ?_
    refine v_iload_n g dk_1_mostSpecial_79 1 rfl rfl (pc' := 80) rfl ?_
    obtain ⟨hb7, hf⟩ := grd hf
    refine alM_12 g hK hb7 dk_1_mostSpecial_80 (pc' := 81) rfl ?_
    refine v_icmp_ge (tgt := 164) (pc' := 84) g dk_1_mostSpecial_81 (by decide) rfl (fun hc => ?_) (fun hc => ?_)
    · replace hf := ifT hc hf
      refine v_sub [0, 1, 2, 3, 4] rfl ?_
      have e9 := Option.some.inj hf
      subst e9
      exact hx
    · replace hf := ifF hc hf
      refine v_iload_n g dk_1_mostSpecial_84 2 rfl rfl (pc' := 85) rfl ?_
      refine v_iload g dk_1_mostSpecial_85 4 rfl (pc' := 87) rfl ?_
      refine v_ishr g dk_1_mostSpecial_87 (pc' := 88) rfl ?_
      refine v_iconst (v := 1) g dk_1_mostSpecial_88 (by decide) (pc' := 89) rfl ?_
      refine v_iand g dk_1_mostSpecial_89 (pc' := 90) rfl ?_
      refine v_iconst (v := 1) g dk_1_mostSpecial_90 (by decide) (pc' := 91) rfl ?_
      refine v_icmp_ne (tgt := 108) (pc' := 94) g dk_1_mostSpecial_91 (by decide) rfl (fun hc => ?_) (fun hc => ?_)
      · replace hf := ifF hc hf
        refine v_iconst (v := 0) g dk_1_mostSpecial_108 (by decide) (pc' := 109) rfl ?_
        refine v_istore (lv' := [(7, .int 0), (0, .ref (ad 0)), (1, .int x1), (3, .int x3), (4, .int x4), (5, .int x5), (6, .int x6)]) g dk_1_mostSpecial_109 (by decide) rfl (pc' := 111) rfl ?_
        refine v_iload g dk_1_mostSpecial_111 0 rfl (pc' := 113) rfl ?_
        refine v_if_eq (tgt := 158) (pc' := 116) g dk_1_mostSpecial_113 (by decide) rfl (fun hc => ?_) (fun hc => ?_)
        · replace hf := ifT hc hf
          refine v_iinc (j := 6) (v := x6 + 1) (lv' := [(6, .int (x6 + 1)), (7, .int 0), (0, .ref (ad 0)), (1, .int x1), (3, .int x3), (4, .int x4), (5, .int x5)]) g dk_1_mostSpecial_158 rfl rfl (by decide) rfl (pc' := 161) rfl ?_
          refine v_goto (tgt := 73) g dk_1_mostSpecial_161 (by decide) ?_
          refine v_sub [2, 3, 4, 5, 6, 0] rfl ?_
          exact ih x4 (x6 + 1) o hf hx
        · replace hf := ifF hc hf
          refine v_aload_n g dk_1_mostSpecial_116 1 rfl rfl (pc' := 117) rfl ?_
          refine v_aload_n g dk_1_mostSpecial_117 1 rfl rfl (pc' := 118) rfl ?_
          refine gfM_X_47 g hK dk_1_mostSpecial_118 (pc' := 121) rfl ?_
          refine v_bipush (v := 8) g dk_1_mostSpecial_121 (by decide) (pc' := 123) rfl ?_
          refine v_iload_n g dk_1_mostSpecial_123 2 rfl rfl (pc' := 124) rfl ?_
          refine v_imul g dk_1_mostSpecial_124 (pc' := 125) rfl ?_
          refine v_iload g dk_1_mostSpecial_125 6 rfl (pc' := 127) rfl ?_
          refine v_iadd g dk_1_mostSpecial_127 (pc' := 128) rfl ?_
          obtain ⟨hb8, hf⟩ := grd hf
          refine alM_13 g hK hb8 dk_1_mostSpecial_128 (pc' := 129) rfl ?_
          refine v_aload_n g dk_1_mostSpecial_129 1 rfl rfl (pc' := 130) rfl ?_
          refine gfM_X_47 g hK dk_1_mostSpecial_130 (pc' := 133) rfl ?_
          refine v_bipush (v := 8) g dk_1_mostSpecial_133 (by decide) (pc' := 135) rfl ?_
          refine v_iload_n g dk_1_mostSpecial_135 2 rfl rfl (pc' := 136) rfl ?_
          refine v_imul g dk_1_mostSpecial_136 (pc' := 137) rfl ?_
          refine v_iload g dk_1_mostSpecial_137 5 rfl (pc' := 139) rfl ?_
          refine v_iadd g dk_1_mostSpecial_139 (pc' := 140) rfl ?_
          obtain ⟨hb9, hf⟩ := grd hf
          refine alM_13 g hK hb9 dk_1_mostSpecial_140 (pc' := 141) rfl ?_
          obtain ⟨q10, hq, hf⟩ := bnd hf
          refine v_callV_i (As := [.int (gA S 12 (((8 : Int32) * x1) + x6).toNatClampNeg), .int (gA S 12 (((8 : Int32) * x1) + x5).toNatClampNeg)]) (rest := []) (r := q10) (S1 := S) g hK hA (c_MX_isSpecial hq) (kcM_X_161 g.2.2.2.2 rfl rfl (Nat.le_of_ble_eq_true rfl) (Nat.le_of_ble_eq_true rfl)) (ci := 1) (q0 := 0) rfl rfl rfl rfl rfl (Nat.le_of_ble_eq_true rfl) dk_1_mostSpecial_141 (Nat.zero_le _) (Nat.zero_le _) (pc' := 144) rfl ?_
          refine v_if_eq (tgt := 158) (pc' := 147) g dk_1_mostSpecial_144 (by decide) rfl (fun hc => ?_) (fun hc => ?_)
          · replace hf := ifT hc hf
            refine v_iinc (j := 6) (v := x6 + 1) (lv' := [(6, .int (x6 + 1)), (7, .int 0), (0, .ref (ad 0)), (1, .int x1), (3, .int x3), (4, .int x4), (5, .int x5)]) g dk_1_mostSpecial_158 rfl rfl (by decide) rfl (pc' := 161) rfl ?_
            refine v_goto (tgt := 73) g dk_1_mostSpecial_161 (by decide) ?_
            refine v_sub [2, 3, 4, 5, 6, 0] rfl ?_
            exact ih x4 (x6 + 1) o hf hx
          · replace hf := ifF hc hf
            refine v_iload g dk_1_mostSpecial_147 4 rfl (pc' := 149) rfl ?_
            refine v_iconst (v := 1) g dk_1_mostSpecial_149 (by decide) (pc' := 150) rfl ?_
            refine v_iload g dk_1_mostSpecial_150 5 rfl (pc' := 152) rfl ?_
            refine v_ishl g dk_1_mostSpecial_152 (pc' := 153) rfl ?_
            refine v_iconst (v := (-1)) g dk_1_mostSpecial_153 (by decide) (pc' := 154) rfl ?_
            refine v_ixor g dk_1_mostSpecial_154 (pc' := 155) rfl ?_
            refine v_iand g dk_1_mostSpecial_155 (pc' := 156) rfl ?_
            refine v_istore (lv' := [(4, .int (x4 &&& (((1 : Int32) <<< (x5 &&& 31)) ^^^ ((-1) : Int32)))), (7, .int 0), (0, .ref (ad 0)), (1, .int x1), (3, .int x3), (5, .int x5), (6, .int x6)]) g dk_1_mostSpecial_156 (by decide) rfl (pc' := 158) rfl ?_
            refine v_iinc (j := 6) (v := x6 + 1) (lv' := [(6, .int (x6 + 1)), (4, .int (x4 &&& (((1 : Int32) <<< (x5 &&& 31)) ^^^ ((-1) : Int32)))), (7, .int 0), (0, .ref (ad 0)), (1, .int x1), (3, .int x3), (5, .int x5)]) g dk_1_mostSpecial_158 rfl rfl (by decide) rfl (pc' := 161) rfl ?_
            refine v_goto (tgt := 73) g dk_1_mostSpecial_161 (by decide) ?_
            refine v_sub [3, 4, 5, 1, 6, 0] rfl ?_
            exact ih (x4 &&& (((1 : Int32) <<< (x5 &&& 31)) ^^^ ((-1) : Int32))) (x6 + 1) o hf hx
      · replace hf := ifT hc hf
        refine v_iload_n g dk_1_mostSpecial_94 2 rfl rfl (pc' := 95) rfl ?_
        refine v_iload g dk_1_mostSpecial_95 5 rfl (pc' := 97) rfl ?_
        refine v_ishr g dk_1_mostSpecial_97 (pc' := 98) rfl ?_
        refine v_iconst (v := 1) g dk_1_mostSpecial_98 (by decide) (pc' := 99) rfl ?_
        refine v_iand g dk_1_mostSpecial_99 (pc' := 100) rfl ?_
        refine v_iconst (v := 1) g dk_1_mostSpecial_100 (by decide) (pc' := 101) rfl ?_
        refine v_icmp_ne (tgt := 108) (pc' := 104) g dk_1_mostSpecial_101 (by decide) rfl (fun hc => ?_) (fun hc => ?_)
        · replace hf := ifF hc hf
          refine v_iconst (v := 0) g dk_1_mostSpecial_108 (by decide) (pc' := 109) rfl ?_
          refine v_istore (lv' := [(7, .int 0), (0, .ref (ad 0)), (1, .int x1), (3, .int x3), (4, .int x4), (5, .int x5), (6, .int x6)]) g dk_1_mostSpecial_109 (by decide) rfl (pc' := 111) rfl ?_
          refine v_iload g dk_1_mostSpecial_111 0 rfl (pc' := 113) rfl ?_
          refine v_if_eq (tgt := 158) (pc' := 116) g dk_1_mostSpecial_113 (by decide) rfl (fun hc => ?_) (fun hc => ?_)
          · replace hf := ifT hc hf
            refine v_iinc (j := 6) (v := x6 + 1) (lv' := [(6, .int (x6 + 1)), (7, .int 0), (0, .ref (ad 0)), (1, .int x1), (3, .int x3), (4, .int x4), (5, .int x5)]) g dk_1_mostSpecial_158 rfl rfl (by decide) rfl (pc' := 161) rfl ?_
            refine v_goto (tgt := 73) g dk_1_mostSpecial_161 (by decide) ?_
            refine v_sub [2, 3, 4, 5, 6, 0] rfl ?_
            exact ih x4 (x6 + 1) o hf hx
          · replace hf := ifF hc hf
            refine v_aload_n g dk_1_mostSpecial_116 1 rfl rfl (pc' := 117) rfl ?_
            refine v_aload_n g dk_1_mostSpecial_117 1 rfl rfl (pc' := 118) rfl ?_
            refine gfM_X_47 g hK dk_1_mostSpecial_118 (pc' := 121) rfl ?_
            refine v_bipush (v := 8) g dk_1_mostSpecial_121 (by decide) (pc' := 123) rfl ?_
            refine v_iload_n g dk_1_mostSpecial_123 2 rfl rfl (pc' := 124) rfl ?_
            refine v_imul g dk_1_mostSpecial_124 (pc' := 125) rfl ?_
            refine v_iload g dk_1_mostSpecial_125 6 rfl (pc' := 127) rfl ?_
            refine v_iadd g dk_1_mostSpecial_127 (pc' := 128) rfl ?_
            obtain ⟨hb11, hf⟩ := grd hf
            refine alM_13 g hK hb11 dk_1_mostSpecial_128 (pc' := 129) rfl ?_
            refine v_aload_n g dk_1_mostSpecial_129 1 rfl rfl (pc' := 130) rfl ?_
            refine gfM_X_47 g hK dk_1_mostSpecial_130 (pc' := 133) rfl ?_
            refine v_bipush (v := 8) g dk_1_mostSpecial_133 (by decide) (pc' := 135) rfl ?_
            refine v_iload_n g dk_1_mostSpecial_135 2 rfl rfl (pc' := 136) rfl ?_
            refine v_imul g dk_1_mostSpecial_136 (pc' := 137) rfl ?_
            refine v_iload g dk_1_mostSpecial_137 5 rfl (pc' := 139) rfl ?_
            refine v_iadd g dk_1_mostSpecial_139 (pc' := 140) rfl ?_
            obtain ⟨hb12, hf⟩ := grd hf
            refine alM_13 g hK hb12 dk_1_mostSpecial_140 (pc' := 141) rfl ?_
            obtain ⟨q13, hq, hf⟩ := bnd hf
            refine v_callV_i (As := [.int (gA S 12 (((8 : Int32) * x1) + x6).toNatClampNeg), .int (gA S 12 (((8 : Int32) * x1) + x5).toNatClampNeg)]) (rest := []) (r := q13) (S1 := S) g hK hA (c_MX_isSpecial hq) (kcM_X_161 g.2.2.2.2 rfl rfl (Nat.le_of_ble_eq_true rfl) (Nat.le_of_ble_eq_true rfl)) (ci := 1) (q0 := 0) rfl rfl rfl rfl rfl (Nat.le_of_ble_eq_true rfl) dk_1_mostSpecial_141 (Nat.zero_le _) (Nat.zero_le _) (pc' := 144) rfl ?_
            refine v_if_eq (tgt := 158) (pc' := 147) g dk_1_mostSpecial_144 (by decide) rfl (fun hc => ?_) (fun hc => ?_)
            · replace hf := ifT hc hf
              refine v_iinc (j := 6) (v := x6 + 1) (lv' := [(6, .int (x6 + 1)), (7, .int 0), (0, .ref (ad 0)), (1, .int x1), (3, .int x3), (4, .int x4), (5, .int x5)]) g dk_1_mostSpecial_158 rfl rfl (by decide) rfl (pc' := 161) rfl ?_
              refine v_goto (tgt := 73) g dk_1_mostSpecial_161 (by decide) ?_
              refine v_sub [2, 3, 4, 5, 6, 0] rfl ?_
              exact ih x4 (x6 + 1) o hf hx
            · replace hf := ifF hc hf
              refine v_iload g dk_1_mostSpecial_147 4 rfl (pc' := 149) rfl ?_
              refine v_iconst (v := 1) g dk_1_mostSpecial_149 (by decide) (pc' := 150) rfl ?_
              refine v_iload g dk_1_mostSpecial_150 5 rfl (pc' := 152) rfl ?_
              refine v_ishl g dk_1_mostSpecial_152 (pc' := 153) rfl ?_
              refine v_iconst (v := (-1)) g dk_1_mostSpecial_153 (by decide) (pc' := 154) rfl ?_
              refine v_ixor g dk_1_mostSpecial_154 (pc' := 155) rfl ?_
              refine v_iand g dk_1_mostSpecial_155 (pc' := 156) rfl ?_
              refine v_istore (lv' := [(4, .int (x4 &&& (((1 : Int32) <<< (x5 &&& 31)) ^^^ ((-1) : Int32)))), (7, .int 0), (0, .ref (ad 0)), (1, .int x1), (3, .int x3), (5, .int x5), (6, .int x6)]) g dk_1_mostSpecial_156 (by decide) rfl (pc' := 158) rfl ?_
              refine v_iinc (j := 6) (v := x6 + 1) (lv' := [(6, .int (x6 + 1)), (4, .int (x4 &&& (((1 : Int32) <<< (x5 &&& 31)) ^^^ ((-1) : Int32)))), (7, .int 0), (0, .ref (ad 0)), (1, .int x1), (3, .int x3), (5, .int x5)]) g dk_1_mostSpecial_158 rfl rfl (by decide) rfl (pc' := 161) rfl ?_
              refine v_goto (tgt := 73) g dk_1_mostSpecial_161 (by decide) ?_
              refine v_sub [3, 4, 5, 1, 6, 0] rfl ?_
              exact ih (x4 &&& (((1 : Int32) <<< (x5 &&& 31)) ^^^ ((-1) : Int32))) (x6 + 1) o hf hx
        · replace hf := ifT hc hf
          refine v_iconst (v := 1) g dk_1_mostSpecial_104 (by decide) (pc' := 105) rfl ?_
          refine v_goto (tgt := 109) g dk_1_mostSpecial_105 (by decide) ?_
          refine v_istore (lv' := [(7, .int 1), (0, .ref (ad 0)), (1, .int x1), (3, .int x3), (4, .int x4), (5, .int x5), (6, .int x6)]) g dk_1_mostSpecial_109 (by decide) rfl (pc' := 111) rfl ?_
          refine v_iload g dk_1_mostSpecial_111 0 rfl (pc' := 113) rfl ?_
          refine v_if_eq (tgt := 158) (pc' := 116) g dk_1_mostSpecial_113 (by decide) rfl (fun hc => ?_) (fun hc => ?_)
          · replace hf := ifT hc hf
            refine v_iinc (j := 6) (v := x6 + 1) (lv' := [(6, .int (x6 + 1)), (7, .int 1), (0, .ref (ad 0)), (1, .int x1), (3, .int x3), (4, .int x4), (5, .int x5)]) g dk_1_mostSpecial_158 rfl rfl (by decide) rfl (pc' := 161) rfl ?_
            refine v_goto (tgt := 73) g dk_1_mostSpecial_161 (by decide) ?_
            refine v_sub [2, 3, 4, 5, 6, 0] rfl ?_
            exact ih x4 (x6 + 1) o hf hx
          · replace hf := ifF hc hf
            refine v_aload_n g dk_1_mostSpecial_116 1 rfl rfl (pc' := 117) rfl ?_
            refine v_aload_n g dk_1_mostSpecial_117 1 rfl rfl (pc' := 118) rfl ?_
            refine gfM_X_47 g hK dk_1_mostSpecial_118 (pc' := 121) rfl ?_
            refine v_bipush (v := 8) g dk_1_mostSpecial_121 (by decide) (pc' := 123) rfl ?_
            refine v_iload_n g dk_1_mostSpecial_123 2 rfl rfl (pc' := 124) rfl ?_
            refine v_imul g dk_1_mostSpecial_124 (pc' := 125) rfl ?_
            refine v_iload g dk_1_mostSpecial_125 6 rfl (pc' := 127) rfl ?_
            refine v_iadd g dk_1_mostSpecial_127 (pc' := 128) rfl ?_
            obtain ⟨hb14, hf⟩ := grd hf
            refine alM_13 g hK hb14 dk_1_mostSpecial_128 (pc' := 129) rfl ?_
            refine v_aload_n g dk_1_mostSpecial_129 1 rfl rfl (pc' := 130) rfl ?_
            refine gfM_X_47 g hK dk_1_mostSpecial_130 (pc' := 133) rfl ?_
            refine v_bipush (v := 8) g dk_1_mostSpecial_133 (by decide) (pc' := 135) rfl ?_
            refine v_iload_n g dk_1_mostSpecial_135 2 rfl rfl (pc' := 136) rfl ?_
            refine v_imul g dk_1_mostSpecial_136 (pc' := 137) rfl ?_
            refine v_iload g dk_1_mostSpecial_137 5 rfl (pc' := 139) rfl ?_
            refine v_iadd g dk_1_mostSpecial_139 (pc' := 140) rfl ?_
            obtain ⟨hb15, hf⟩ := grd hf
            refine alM_13 g hK hb15 dk_1_mostSpecial_140 (pc' := 141) rfl ?_
            obtain ⟨q16, hq, hf⟩ := bnd hf
            refine v_callV_i (As := [.int (gA S 12 (((8 : Int32) * x1) + x6).toNatClampNeg), .int (gA S 12 (((8 : Int32) * x1) + x5).toNatClampNeg)]) (rest := []) (r := q16) (S1 := S) g hK hA (c_MX_isSpecial hq) (kcM_X_161 g.2.2.2.2 rfl rfl (Nat.le_of_ble_eq_true rfl) (Nat.le_of_ble_eq_true rfl)) (ci := 1) (q0 := 0) rfl rfl rfl rfl rfl (Nat.le_of_ble_eq_true rfl) dk_1_mostSpecial_141 (Nat.zero_le _) (Nat.zero_le _) (pc' := 144) rfl ?_
            refine v_if_eq (tgt := 158) (pc' := 147) g dk_1_mostSpecial_144 (by decide) rfl (fun hc => ?_) (fun hc => ?_)
            · replace hf := ifT hc hf
              refine v_iinc (j := 6) (v := x6 + 1) (lv' := [(6, .int (x6 + 1)), (7, .int 1), (0, .ref (ad 0)), (1, .int x1), (3, .int x3), (4, .int x4), (5, .int x5)]) g dk_1_mostSpecial_158 rfl rfl (by decide) rfl (pc' := 161) rfl ?_
              refine v_goto (tgt := 73) g dk_1_mostSpecial_161 (by decide) ?_
              refine v_sub [2, 3, 4, 5, 6, 0] rfl ?_
              exact ih x4 (x6 + 1) o hf hx
            · replace hf := ifF hc hf
              refine v_iload g dk_1_mostSpecial_147 4 rfl (pc' := 149) rfl ?_
              refine v_iconst (v := 1) g dk_1_mostSpecial_149 (by decide) (pc' := 150) rfl ?_
              refine v_iload g dk_1_mostSpecial_150 5 rfl (pc' := 152) rfl ?_
              refine v_ishl g dk_1_mostSpecial_152 (pc' := 153) rfl ?_
              refine v_iconst (v := (-1)) g dk_1_mostSpecial_153 (by decide) (pc' := 154) rfl ?_
              refine v_ixor g dk_1_mostSpecial_154 (pc' := 155) rfl ?_
              refine v_iand g dk_1_mostSpecial_155 (pc' := 156) rfl ?_
              refine v_istore (lv' := [(4, .int (x4 &&& (((1 : Int32) <<< (x5 &&& 31)) ^^^ ((-1) : Int32)))), (7, .int 1), (0, .ref (ad 0)), (1, .int x1), (3, .int x3), (5, .int x5), (6, .int x6)]) g dk_1_mostSpecial_156 (by decide) rfl (pc' := 158) rfl ?_
              refine v_iinc (j := 6) (v := x6 + 1) (lv' := [(6, .int (x6 + 1)), (4, .int (x4 &&& (((1 : Int32) <<< (x5 &&& 31)) ^^^ ((-1) : Int32)))), (7, .int 1), (0, .ref (ad 0)), (1, .int x1), (3, .int x3), (5, .int x5)]) g dk_1_mostSpecial_158 rfl rfl (by decide) rfl (pc' := 161) rfl ?_
              refine v_goto (tgt := 73) g dk_1_mostSpecial_161 (by decide) ?_
              refine v_sub [3, 4, 5, 1, 6, 0] rfl ?_
              exact ih (x4 &&& (((1 : Int32) <<< (x5 &&& 31)) ^^^ ((-1) : Int32))) (x6 + 1) o hf hx
def L_MX_mostSpecial_59 (S : StM) (x1 : Int32) (x3 : Int32) : Nat → Int32 → Int32 → Option (Int32)
  | 0, _, _ => none
  | n + 1, x4, x5 =>
    if inb x1 24 = true then if (gA S 11 x1.toNatClampNeg) ≤ x5 then some x4
    else (L_MX_mostSpecial_73 S x1 x3 x5 100 x4 0).bind fun y18 =>
    L_MX_mostSpecial_59 S x1 x3 n y18 (x5 + 1) else none
set_option maxHeartbeats 4000000 in
set_option maxRecDepth 100000 in
theorem w_MX_mostSpecial_59 {p : Program} {l : Launch} {e : Env} {s : State} {m : MethodId} {args : Array Value} {below : List Frame} {meth : Method} {c : Code} {A : Nat → Prop} {D : va_G} {ad : Nat → Nat} {ca : Nat → ClassId} {Rm : Int32 × StM} {S : StM} {x1 : Int32} {x3 : Int32} (g : CallFix p m c bk_1_mostSpecial 8 s args tb Rk_1) (hr : meth.sig.returnType = some .int) (hlk : meth.locks = false) (hK : va_K D vwCl (tyM ca) s) (hA : ∀ q, s.heap.size ≤ q → A q) : ∀ (n : Nat) (x4 : Int32) (x5 : Int32) (o : Int32), L_MX_mostSpecial_59 S x1 x3 n x4 x5 = some o → (Vj p l e rm_MX_mostSpecial s m args below meth c (MQ below (qI D vwCl (tyM ca) (wdM ad ca) A Rm) args s 0 0 A) D vwCl A 8 0 0 (wdM ad ca S) 170 [(4, .int o)] []) → Vj p l e rm_MX_mostSpecial s m args below meth c (MQ below (qI D vwCl (tyM ca) (wdM ad ca) A Rm) args s 0 0 A) D vwCl A 8 0 0 (wdM ad ca S) 59 [(0, .ref (ad 0)), (1, .int x1), (3, .int x3), (4, .int x4), (5, .int x5)] [] := by
  intro n
  induction n with
  | zero => intro x4 x5 o hf; exact nomatch (show none = some o from hf)
  | succ n ih =>
    intro x4 x5 o hf hx
    rw [L_MX_mostSpecial_59] at hf
    refine v_iload g dk_1_mostSpecial_59 4 rfl (pc' := 61) rfl ?_
    refine v_aload_n g dk_1_mostSpecial_61 0 rfl rfl (pc' := 62) rfl ?_
    refine gfM_X_44 g hK dk_1_mostSpecial_62 (pc' := 65) rfl ?_
    refine v_iload_n g dk_1_mostSpecial_65 1 rfl rfl (pc' := 66) rfl ?_
    obtain ⟨hb6, hf⟩ := grd hf
    refine alM_12 g hK hb6 dk_1_mostSpecial_66 (pc' := 67) rfl ?_
    refine v_icmp_ge (tgt := 170) (pc' := 70) g dk_1_mostSpecial_67 (by decide) rfl (fun hc => ?_) (fun hc => ?_)
    · replace hf := ifT hc hf
      refine v_sub [3] rfl ?_
      have e9 := Option.some.inj hf
      subst e9
      exact hx
    · replace hf := ifF hc hf
      refine v_iconst (v := 0) g dk_1_mostSpecial_70 (by decide) (pc' := 71) rfl ?_
      refine v_istore (lv' := [(6, .int 0), (0, .ref (ad 0)), (1, .int x1), (3, .int x3), (4, .int x4), (5, .int x5)]) g dk_1_mostSpecial_71 (by decide) rfl (pc' := 73) rfl ?_
      refine v_sub [1, 2, 3, 4, 5, 0] rfl ?_
      obtain ⟨y18, hL, hf⟩ := bnd hf
      refine w_MX_mostSpecial_73 g hr hlk hK hA 100 x4 0 _ hL ?_
      refine v_iinc (j := 4) (v := x5 + 1) (lv' := [(5, .int (x5 + 1)), (0, .ref (ad 0)), (1, .int x1), (3, .int x3), (4, .int y18)]) g dk_1_mostSpecial_164 rfl rfl (by decide) rfl (pc' := 167) rfl ?_
      refine v_goto (tgt := 59) g dk_1_mostSpecial_167 (by decide) ?_
      refine v_sub [1, 2, 3, 4, 0] rfl ?_
      exact ih y18 (x5 + 1) o hf hx
def m_MX_mostSpecial (S : StM) (x1 : Int32) (x2 : Int32) : Option Int32 :=
  (L_MX_mostSpecial_5 S x1 x2 100 0 0).bind fun y5 =>
    (L_MX_mostSpecial_59 S x1 y5 100 y5 0).bind fun y20 =>
    some y20
set_option maxHeartbeats 4000000 in
set_option maxRecDepth 100000 in
theorem c_MX_mostSpecial {l : Launch} {D : va_G} {ad : Nat → Nat} {ca : Nat → ClassId} {S : StM} {x1 : Int32} {x2 : Int32} {r : Int32} (hf : m_MX_mostSpecial S x1 x2 = some r) : KIM l D ad ca yk_1_mostSpecial (.code yk_1_mostSpecial bk_1_mostSpecial 8 (some .int) :: tb) rm_MX_mostSpecial [.ref (ad 0), .int x1, .int x2] S (r, S) := by
  refine met_i (by decide) (Nat.le_of_ble_eq_true rfl) (fun p e s m below meth c A g hr hlk hK hA => ?_)
  replace g : CallFix p m c bk_1_mostSpecial 8 s _ tb Rk_1 := g
  refine v_lv (lv' := [(0, .ref (ad 0)), (1, .int x1), (2, .int x2)]) rfl ?_
  unfold m_MX_mostSpecial at hf
  refine v_iconst (v := 0) g dk_1_mostSpecial_0 (by decide) (pc' := 1) rfl ?_
  refine v_istore_n (lv' := [(3, .int 0), (0, .ref (ad 0)), (1, .int x1), (2, .int x2)]) g dk_1_mostSpecial_1 rfl (by decide) rfl (pc' := 2) rfl ?_
  refine v_iconst (v := 0) g dk_1_mostSpecial_2 (by decide) (pc' := 3) rfl ?_
  refine v_istore (lv' := [(4, .int 0), (3, .int 0), (0, .ref (ad 0)), (1, .int x1), (2, .int x2)]) g dk_1_mostSpecial_3 (by decide) rfl (pc' := 5) rfl ?_
  refine v_sub [2, 3, 4, 1, 0] rfl ?_
  obtain ⟨y5, hL, hf⟩ := bnd hf
  refine w_MX_mostSpecial_5 g hr hlk hK hA 100 0 0 _ hL ?_
  refine v_iload_n g dk_1_mostSpecial_53 2 rfl rfl (pc' := 54) rfl ?_
  refine v_istore (lv' := [(4, .int y5), (0, .ref (ad 0)), (1, .int x1), (3, .int y5)]) g dk_1_mostSpecial_54 (by decide) rfl (pc' := 56) rfl ?_
  refine v_iconst (v := 0) g dk_1_mostSpecial_56 (by decide) (pc' := 57) rfl ?_
  refine v_istore (lv' := [(5, .int 0), (4, .int y5), (0, .ref (ad 0)), (1, .int x1), (3, .int y5)]) g dk_1_mostSpecial_57 (by decide) rfl (pc' := 59) rfl ?_
  refine v_sub [2, 3, 4, 1, 0] rfl ?_
  obtain ⟨y20, hL, hf⟩ := bnd hf
  refine w_MX_mostSpecial_59 g hr hlk hK hA 100 y5 0 _ hL ?_
  refine v_iload g dk_1_mostSpecial_170 0 rfl (pc' := 172) rfl ?_
  exact v_iret g hr hlk hK  (pinj hf) dk_1_mostSpecial_172
abbrev rm_MX_chooseInner : Room := { frames := 6, cells := 0, slots := 0, locals := 143 }
def L_MX_chooseInner_48 (x1 : Int32) (x3 : Int32) : Nat → StM → Int32 → Option (StM)
  | 0, _, _ => none
  | n + 1, S, x4 =>
    if inb x1 24 = true then if (gA S 11 x1.toNatClampNeg) ≤ x4 then some S
    else if ((x3 >>> (x4 &&& 31)) &&& (1 : Int32)) = 1 then if (gI S 11) = 2 then L_MX_chooseInner_48 x1 x3 n S (x4 + 1)
    else if inb (((8 : Int32) * x1) + x4) 192 = true then if (gI S 13) = (-1) then L_MX_chooseInner_48 x1 x3 n (sI (sI (sI S 13 x4) 11 1) 12 (gA S 13 (((8 : Int32) * x1) + x4).toNatClampNeg)) (x4 + 1)
    else if (gA S 13 (((8 : Int32) * x1) + x4).toNatClampNeg) = (gI S 12) then L_MX_chooseInner_48 x1 x3 n S (x4 + 1)
    else L_MX_chooseInner_48 x1 x3 n (sI (sI S 14 x4) 11 2) (x4 + 1) else none
    else L_MX_chooseInner_48 x1 x3 n S (x4 + 1) else none
set_option maxHeartbeats 4000000 in
set_option maxRecDepth 100000 in
theorem w_MX_chooseInner_48 {p : Program} {l : Launch} {e : Env} {s : State} {m : MethodId} {args : Array Value} {below : List Frame} {meth : Method} {c : Code} {A : Nat → Prop} {D : va_G} {ad : Nat → Nat} {ca : Nat → ClassId} {Rm : StM} {x1 : Int32} {x3 : Int32} (g : CallFix p m c bk_1_chooseInner 6 s args tb Rk_1) (hr : meth.sig.returnType = none) (hlk : meth.locks = false) (hK : va_K D vwCl (tyM ca) s) (hA : ∀ q, s.heap.size ≤ q → A q) : ∀ (n : Nat) (S : StM) (x4 : Int32) (o : StM), L_MX_chooseInner_48 x1 x3 n S x4 = some o → (Vj p l e rm_MX_chooseInner s m args below meth c (MQ below (qV D vwCl (tyM ca) (wdM ad ca) A Rm) args s 0 0 A) D vwCl A 6 0 0 (wdM ad ca o) 145 [] []) → Vj p l e rm_MX_chooseInner s m args below meth c (MQ below (qV D vwCl (tyM ca) (wdM ad ca) A Rm) args s 0 0 A) D vwCl A 6 0 0 (wdM ad ca S) 48 [(0, .ref (ad 0)), (1, .int x1), (3, .int x3), (4, .int x4)] [] := by
  intro n
  induction n with
  | zero => intro S x4 o hf; exact nomatch (show none = some o from hf)
  | succ n ih =>
    intro S x4 o hf hx
    rw [L_MX_chooseInner_48] at hf
    refine v_iload g dk_1_chooseInner_48 3 rfl (pc' := 50) rfl ?_
    refine v_aload_n g dk_1_chooseInner_50 0 rfl rfl (pc' := 51) rfl ?_
    refine gfM_X_44 g hK dk_1_chooseInner_51 (pc' := 54) rfl ?_
    refine v_iload_n g dk_1_chooseInner_54 1 rfl rfl (pc' := 55) rfl ?_
    obtain ⟨hb3, hf⟩ := grd hf
    refine alM_12 g hK hb3 dk_1_chooseInner_55 (pc' := 56) rfl ?_
    refine v_icmp_ge (tgt := 145) (pc' := 59) g dk_1_chooseInner_56 (by decide) rfl (fun hc => ?_) (fun hc => ?_)
    · replace hf := ifT hc hf
      refine v_sub [] rfl ?_
      have e9 := Option.some.inj hf
      subst e9
      exact hx
    · replace hf := ifF hc hf
      refine v_iload_n g dk_1_chooseInner_59 2 rfl rfl (pc' := 60) rfl ?_
      refine v_iload g dk_1_chooseInner_60 3 rfl (pc' := 62) rfl ?_
      refine v_ishr g dk_1_chooseInner_62 (pc' := 63) rfl ?_
      refine v_iconst (v := 1) g dk_1_chooseInner_63 (by decide) (pc' := 64) rfl ?_
      refine v_iand g dk_1_chooseInner_64 (pc' := 65) rfl ?_
      refine v_iconst (v := 1) g dk_1_chooseInner_65 (by decide) (pc' := 66) rfl ?_
      refine v_icmp_ne (tgt := 139) (pc' := 69) g dk_1_chooseInner_66 (by decide) rfl (fun hc => ?_) (fun hc => ?_)
      · replace hf := ifF hc hf
        refine v_iinc (j := 3) (v := x4 + 1) (lv' := [(4, .int (x4 + 1)), (0, .ref (ad 0)), (1, .int x1), (3, .int x3)]) g dk_1_chooseInner_139 rfl rfl (by decide) rfl (pc' := 142) rfl ?_
        refine v_goto (tgt := 48) g dk_1_chooseInner_142 (by decide) ?_
        refine v_sub [1, 2, 3, 0] rfl ?_
        exact ih S (x4 + 1) o hf hx
      · replace hf := ifT hc hf
        refine v_aload_n g dk_1_chooseInner_69 0 rfl rfl (pc' := 70) rfl ?_
        refine gfM_X_168 g hK dk_1_chooseInner_70 (pc' := 73) rfl ?_
        refine v_iconst (v := 2) g dk_1_chooseInner_73 (by decide) (pc' := 74) rfl ?_
        refine v_icmp_eq (tgt := 139) (pc' := 77) g dk_1_chooseInner_74 (by decide) rfl (fun hc => ?_) (fun hc => ?_)
        · replace hf := ifT hc hf
          refine v_iinc (j := 3) (v := x4 + 1) (lv' := [(4, .int (x4 + 1)), (0, .ref (ad 0)), (1, .int x1), (3, .int x3)]) g dk_1_chooseInner_139 rfl rfl (by decide) rfl (pc' := 142) rfl ?_
          refine v_goto (tgt := 48) g dk_1_chooseInner_142 (by decide) ?_
          refine v_sub [1, 2, 3, 0] rfl ?_
          exact ih S (x4 + 1) o hf hx
        · replace hf := ifF hc hf
          refine v_aload_n g dk_1_chooseInner_77 0 rfl rfl (pc' := 78) rfl ?_
          refine gfM_X_50 g hK dk_1_chooseInner_78 (pc' := 81) rfl ?_
          refine v_bipush (v := 8) g dk_1_chooseInner_81 (by decide) (pc' := 83) rfl ?_
          refine v_iload_n g dk_1_chooseInner_83 1 rfl rfl (pc' := 84) rfl ?_
          refine v_imul g dk_1_chooseInner_84 (pc' := 85) rfl ?_
          refine v_iload g dk_1_chooseInner_85 3 rfl (pc' := 87) rfl ?_
          refine v_iadd g dk_1_chooseInner_87 (pc' := 88) rfl ?_
          obtain ⟨hb4, hf⟩ := grd hf
          refine alM_14 g hK hb4 dk_1_chooseInner_88 (pc' := 89) rfl ?_
          refine v_istore (lv' := [(5, .int (gA S 13 (((8 : Int32) * x1) + x4).toNatClampNeg)), (0, .ref (ad 0)), (1, .int x1), (3, .int x3), (4, .int x4)]) g dk_1_chooseInner_89 (by decide) rfl (pc' := 91) rfl ?_
          refine v_aload_n g dk_1_chooseInner_91 1 rfl rfl (pc' := 92) rfl ?_
          refine gfM_X_174 g hK dk_1_chooseInner_92 (pc' := 95) rfl ?_
          refine v_iconst (v := (-1)) g dk_1_chooseInner_95 (by decide) (pc' := 96) rfl ?_
          refine v_icmp_ne (tgt := 119) (pc' := 99) g dk_1_chooseInner_96 (by decide) rfl (fun hc => ?_) (fun hc => ?_)
          · replace hf := ifF hc hf
            refine v_iload g dk_1_chooseInner_119 0 rfl (pc' := 121) rfl ?_
            refine v_aload_n g dk_1_chooseInner_121 1 rfl rfl (pc' := 122) rfl ?_
            refine gfM_X_171 g hK dk_1_chooseInner_122 (pc' := 125) rfl ?_
            refine v_icmp_eq (tgt := 139) (pc' := 128) g dk_1_chooseInner_125 (by decide) rfl (fun hc => ?_) (fun hc => ?_)
            · replace hf := ifT hc hf
              refine v_iinc (j := 4) (v := x4 + 1) (lv' := [(4, .int (x4 + 1)), (5, .int (gA S 13 (((8 : Int32) * x1) + x4).toNatClampNeg)), (0, .ref (ad 0)), (1, .int x1), (3, .int x3)]) g dk_1_chooseInner_139 rfl rfl (by decide) rfl (pc' := 142) rfl ?_
              refine v_goto (tgt := 48) g dk_1_chooseInner_142 (by decide) ?_
              refine v_sub [2, 3, 4, 0] rfl ?_
              exact ih S (x4 + 1) o hf hx
            · replace hf := ifF hc hf
              refine v_aload_n g dk_1_chooseInner_128 1 rfl rfl (pc' := 129) rfl ?_
              refine v_iload g dk_1_chooseInner_129 4 rfl (pc' := 131) rfl ?_
              refine pfM_X_177 g hK dk_1_chooseInner_131 (pc' := 134) rfl ?_
              refine v_aload_n g dk_1_chooseInner_134 1 rfl rfl (pc' := 135) rfl ?_
              refine v_iconst (v := 2) g dk_1_chooseInner_135 (by decide) (pc' := 136) rfl ?_
              refine pfM_X_168 g hK dk_1_chooseInner_136 (pc' := 139) rfl ?_
              refine v_iinc (j := 4) (v := x4 + 1) (lv' := [(4, .int (x4 + 1)), (5, .int (gA S 13 (((8 : Int32) * x1) + x4).toNatClampNeg)), (0, .ref (ad 0)), (1, .int x1), (3, .int x3)]) g dk_1_chooseInner_139 rfl rfl (by decide) rfl (pc' := 142) rfl ?_
              refine v_goto (tgt := 48) g dk_1_chooseInner_142 (by decide) ?_
              refine v_sub [2, 3, 4, 0] rfl ?_
              exact ih (sI (sI S 14 x4) 11 2) (x4 + 1) o hf hx
          · replace hf := ifT hc hf
            refine v_aload_n g dk_1_chooseInner_99 1 rfl rfl (pc' := 100) rfl ?_
            refine v_iload g dk_1_chooseInner_100 4 rfl (pc' := 102) rfl ?_
            refine pfM_X_174 g hK dk_1_chooseInner_102 (pc' := 105) rfl ?_
            refine v_aload_n g dk_1_chooseInner_105 1 rfl rfl (pc' := 106) rfl ?_
            refine v_iconst (v := 1) g dk_1_chooseInner_106 (by decide) (pc' := 107) rfl ?_
            refine pfM_X_168 g hK dk_1_chooseInner_107 (pc' := 110) rfl ?_
            refine v_aload_n g dk_1_chooseInner_110 1 rfl rfl (pc' := 111) rfl ?_
            refine v_iload g dk_1_chooseInner_111 0 rfl (pc' := 113) rfl ?_
            refine pfM_X_171 g hK dk_1_chooseInner_113 (pc' := 116) rfl ?_
            refine v_goto (tgt := 139) g dk_1_chooseInner_116 (by decide) ?_
            refine v_iinc (j := 4) (v := x4 + 1) (lv' := [(4, .int (x4 + 1)), (5, .int (gA S 13 (((8 : Int32) * x1) + x4).toNatClampNeg)), (0, .ref (ad 0)), (1, .int x1), (3, .int x3)]) g dk_1_chooseInner_139 rfl rfl (by decide) rfl (pc' := 142) rfl ?_
            refine v_goto (tgt := 48) g dk_1_chooseInner_142 (by decide) ?_
            refine v_sub [2, 3, 4, 0] rfl ?_
            exact ih (sI (sI (sI S 13 x4) 11 1) 12 (gA S 13 (((8 : Int32) * x1) + x4).toNatClampNeg)) (x4 + 1) o hf hx
def m_MX_chooseInner (S : StM) (x1 : Int32) (x2 : Int32) : Option StM :=
  (m_MX_mostSpecial S x1 x2).bind fun q1 =>
    if inb x1 24 = true then if (gA S 16 x1.toNatClampNeg) = 0 then (L_MX_chooseInner_48 x1 q1 100 (sI (sI (sI (sI S 11 0) 12 (gA S 14 x1.toNatClampNeg)) 13 (-1)) 14 (-1)) 0).bind fun y6 =>
    some y6
    else (L_MX_chooseInner_48 x1 q1 100 (sI (sI (sI (sI S 11 1) 12 (gA S 14 x1.toNatClampNeg)) 13 (-1)) 14 (-1)) 0).bind fun y8 =>
    some y8 else none
set_option maxHeartbeats 4000000 in
set_option maxRecDepth 100000 in
theorem c_MX_chooseInner {l : Launch} {D : va_G} {ad : Nat → Nat} {ca : Nat → ClassId} {S : StM} {x1 : Int32} {x2 : Int32} {r : StM} (hf : m_MX_chooseInner S x1 x2 = some r) : KVM l D ad ca yk_1_chooseInner (.code yk_1_chooseInner bk_1_chooseInner 6 none :: tb) rm_MX_chooseInner [.ref (ad 0), .int x1, .int x2] S r := by
  refine met_v (by decide) (Nat.le_of_ble_eq_true rfl) (fun p e s m below meth c A g hr hlk hK hA => ?_)
  replace g : CallFix p m c bk_1_chooseInner 6 s _ tb Rk_1 := g
  refine v_lv (lv' := [(0, .ref (ad 0)), (1, .int x1), (2, .int x2)]) rfl ?_
  unfold m_MX_chooseInner at hf
  refine v_aload_n g dk_1_chooseInner_0 0 rfl rfl (pc' := 1) rfl ?_
  refine v_iload_n g dk_1_chooseInner_1 1 rfl rfl (pc' := 2) rfl ?_
  refine v_iload_n g dk_1_chooseInner_2 2 rfl rfl (pc' := 3) rfl ?_
  obtain ⟨q1, hq, hf⟩ := bnd hf
  refine v_callV_i (As := [.int x1, .int x2]) (rest := []) (r := q1) (S1 := S) g hK hA (c_MX_mostSpecial hq) (kcM_X_164 g.2.2.2.2 rfl rfl (Nat.le_of_ble_eq_true rfl) (Nat.le_of_ble_eq_true rfl)) (ci := 1) (q0 := 0) rfl rfl rfl rfl rfl (Nat.le_of_ble_eq_true rfl) dk_1_chooseInner_3 (Nat.zero_le _) (Nat.zero_le _) (pc' := 6) rfl ?_
  refine v_istore_n (lv' := [(3, .int q1), (0, .ref (ad 0)), (1, .int x1), (2, .int x2)]) g dk_1_chooseInner_6 rfl (by decide) rfl (pc' := 7) rfl ?_
  refine v_aload_n g dk_1_chooseInner_7 1 rfl rfl (pc' := 8) rfl ?_
  refine v_aload_n g dk_1_chooseInner_8 1 rfl rfl (pc' := 9) rfl ?_
  refine gfM_X_59 g hK dk_1_chooseInner_9 (pc' := 12) rfl ?_
  refine v_iload_n g dk_1_chooseInner_12 2 rfl rfl (pc' := 13) rfl ?_
  obtain ⟨hb2, hf⟩ := grd hf
  refine alM_17 g hK hb2 dk_1_chooseInner_13 (pc' := 14) rfl ?_
  refine v_if_eq (tgt := 21) (pc' := 17) g dk_1_chooseInner_14 (by decide) rfl (fun hc => ?_) (fun hc => ?_)
  · replace hf := ifT hc hf
    refine v_iconst (v := 0) g dk_1_chooseInner_21 (by decide) (pc' := 22) rfl ?_
    refine pfM_X_168 g hK dk_1_chooseInner_22 (pc' := 25) rfl ?_
    refine v_aload_n g dk_1_chooseInner_25 1 rfl rfl (pc' := 26) rfl ?_
    refine v_aload_n g dk_1_chooseInner_26 1 rfl rfl (pc' := 27) rfl ?_
    refine gfM_X_53 g hK dk_1_chooseInner_27 (pc' := 30) rfl ?_
    refine v_iload_n g dk_1_chooseInner_30 2 rfl rfl (pc' := 31) rfl ?_
    refine alM_15 g hK hb2 dk_1_chooseInner_31 (pc' := 32) rfl ?_
    refine pfM_X_171 g hK dk_1_chooseInner_32 (pc' := 35) rfl ?_
    refine v_aload_n g dk_1_chooseInner_35 1 rfl rfl (pc' := 36) rfl ?_
    refine v_iconst (v := (-1)) g dk_1_chooseInner_36 (by decide) (pc' := 37) rfl ?_
    refine pfM_X_174 g hK dk_1_chooseInner_37 (pc' := 40) rfl ?_
    refine v_aload_n g dk_1_chooseInner_40 1 rfl rfl (pc' := 41) rfl ?_
    refine v_iconst (v := (-1)) g dk_1_chooseInner_41 (by decide) (pc' := 42) rfl ?_
    refine pfM_X_177 g hK dk_1_chooseInner_42 (pc' := 45) rfl ?_
    refine v_iconst (v := 0) g dk_1_chooseInner_45 (by decide) (pc' := 46) rfl ?_
    refine v_istore (lv' := [(4, .int 0), (3, .int q1), (0, .ref (ad 0)), (1, .int x1), (2, .int x2)]) g dk_1_chooseInner_46 (by decide) rfl (pc' := 48) rfl ?_
    refine v_sub [2, 3, 1, 0] rfl ?_
    obtain ⟨y6, hL, hf⟩ := bnd hf
    refine w_MX_chooseInner_48 g hr hlk hK hA 100 (sI (sI (sI (sI S 11 0) 12 (gA S 14 x1.toNatClampNeg)) 13 (-1)) 14 (-1)) 0 _ hL ?_
    exact v_vret g hr hlk hK  (Option.some.inj hf) dk_1_chooseInner_145
  · replace hf := ifF hc hf
    refine v_iconst (v := 1) g dk_1_chooseInner_17 (by decide) (pc' := 18) rfl ?_
    refine v_goto (tgt := 22) g dk_1_chooseInner_18 (by decide) ?_
    refine pfM_X_168 g hK dk_1_chooseInner_22 (pc' := 25) rfl ?_
    refine v_aload_n g dk_1_chooseInner_25 1 rfl rfl (pc' := 26) rfl ?_
    refine v_aload_n g dk_1_chooseInner_26 1 rfl rfl (pc' := 27) rfl ?_
    refine gfM_X_53 g hK dk_1_chooseInner_27 (pc' := 30) rfl ?_
    refine v_iload_n g dk_1_chooseInner_30 2 rfl rfl (pc' := 31) rfl ?_
    refine alM_15 g hK hb2 dk_1_chooseInner_31 (pc' := 32) rfl ?_
    refine pfM_X_171 g hK dk_1_chooseInner_32 (pc' := 35) rfl ?_
    refine v_aload_n g dk_1_chooseInner_35 1 rfl rfl (pc' := 36) rfl ?_
    refine v_iconst (v := (-1)) g dk_1_chooseInner_36 (by decide) (pc' := 37) rfl ?_
    refine pfM_X_174 g hK dk_1_chooseInner_37 (pc' := 40) rfl ?_
    refine v_aload_n g dk_1_chooseInner_40 1 rfl rfl (pc' := 41) rfl ?_
    refine v_iconst (v := (-1)) g dk_1_chooseInner_41 (by decide) (pc' := 42) rfl ?_
    refine pfM_X_177 g hK dk_1_chooseInner_42 (pc' := 45) rfl ?_
    refine v_iconst (v := 0) g dk_1_chooseInner_45 (by decide) (pc' := 46) rfl ?_
    refine v_istore (lv' := [(4, .int 0), (3, .int q1), (0, .ref (ad 0)), (1, .int x1), (2, .int x2)]) g dk_1_chooseInner_46 (by decide) rfl (pc' := 48) rfl ?_
    refine v_sub [2, 3, 1, 0] rfl ?_
    obtain ⟨y8, hL, hf⟩ := bnd hf
    refine w_MX_chooseInner_48 g hr hlk hK hA 100 (sI (sI (sI (sI S 11 1) 12 (gA S 14 x1.toNatClampNeg)) 13 (-1)) 14 (-1)) 0 _ hL ?_
    exact v_vret g hr hlk hK  (Option.some.inj hf) dk_1_chooseInner_145
