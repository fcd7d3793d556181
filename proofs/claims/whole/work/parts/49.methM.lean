abbrev rm_MX_asks : Room := { frames := 1, cells := 0, slots := 0, locals := 24 }
def L_MX_asks_95 (S : StM) (x1 : Int32) (x2 : Int32) (x3 : Int32) (x4 : Int32) (x7 : Int32) : Nat → Int32 → Option (Unit ⊕ (Int32 × StM))
  | 0, _ => none
  | n + 1, x8 =>
    if x7 ≤ x8 then some (.inl ())
    else if inb x8 240 = true then if (gA S 9 x8.toNatClampNeg) = x2 then if (gA S 7 x8.toNatClampNeg) = x3 then if (gA S 8 x8.toNatClampNeg) = x4 then some (.inr (0, S))
    else L_MX_asks_95 S x1 x2 x3 x4 x7 n (x8 + 1)
    else L_MX_asks_95 S x1 x2 x3 x4 x7 n (x8 + 1)
    else L_MX_asks_95 S x1 x2 x3 x4 x7 n (x8 + 1) else none
set_option maxHeartbeats 4000000 in
set_option maxRecDepth 100000 in
theorem w_MX_asks_95 {p : Program} {l : Launch} {e : Env} {s : State} {m : MethodId} {args : Array Value} {below : List Frame} {meth : Method} {c : Code} {A : Nat → Prop} {D : va_G} {ad : Nat → Nat} {ca : Nat → ClassId} {Rm : Int32 × StM} {S : StM} {x1 : Int32} {x2 : Int32} {x3 : Int32} {x4 : Int32} {x7 : Int32} (g : CallFix p m c bk_1_asks 9 s args tb Rk_1) (hr : meth.sig.returnType = some .boolean) (hlk : meth.locks = false) (hK : va_K D vwCl (tyM ca) s) (hA : ∀ q, s.heap.size ≤ q → A q) : ∀ (n : Nat) (x8 : Int32) (o : Unit ⊕ (Int32 × StM)), L_MX_asks_95 S x1 x2 x3 x4 x7 n x8 = some o → (∀ y, o = .inl y → Vj p l e rm_MX_asks s m args below meth c (MQ below (qI D vwCl (tyM ca) (wdM ad ca) A Rm) args s 0 0 A) D vwCl A 9 0 0 (wdM ad ca S) 144 [(0, .ref (ad 0)), (1, .int x1), (2, .int x2), (3, .int x3), (4, .int x4), (7, .int x7)] []) → (∀ r, o = .inr r → r = Rm) → Vj p l e rm_MX_asks s m args below meth c (MQ below (qI D vwCl (tyM ca) (wdM ad ca) A Rm) args s 0 0 A) D vwCl A 9 0 0 (wdM ad ca S) 95 [(0, .ref (ad 0)), (1, .int x1), (2, .int x2), (3, .int x3), (4, .int x4), (7, .int x7), (8, .int x8)] [] := by
  intro n
  induction n with
  | zero => intro x8 o hf; exact nomatch (show none = some o from hf)
  | succ n ih =>
    intro x8 o hf hx hret
    rw [L_MX_asks_95] at hf
    refine v_iload g dk_1_asks_95 6 rfl (pc' := 97) rfl ?_
    refine v_iload g dk_1_asks_97 5 rfl (pc' := 99) rfl ?_
    refine v_icmp_ge (tgt := 144) (pc' := 102) g dk_1_asks_99 (by decide) rfl (fun hc => ?_) (fun hc => ?_)
    · replace hf := ifT hc hf
      refine v_sub [0, 1, 2, 3, 4, 5] rfl ?_
      exact hx _ (Option.some.inj hf).symm
    · replace hf := ifF hc hf
      refine v_aload_n g dk_1_asks_102 0 rfl rfl (pc' := 103) rfl ?_
      refine gfM_X_37 g hK dk_1_asks_103 (pc' := 106) rfl ?_
      refine v_iload g dk_1_asks_106 6 rfl (pc' := 108) rfl ?_
      obtain ⟨hb4, hf⟩ := grd hf
      refine alM_10 g hK hb4 dk_1_asks_108 (pc' := 109) rfl ?_
      refine v_iload_n g dk_1_asks_109 2 rfl rfl (pc' := 110) rfl ?_
      refine v_icmp_ne (tgt := 138) (pc' := 113) g dk_1_asks_110 (by decide) rfl (fun hc => ?_) (fun hc => ?_)
      · replace hf := ifF hc hf
        refine v_iinc (j := 6) (v := x8 + 1) (lv' := [(8, .int (x8 + 1)), (0, .ref (ad 0)), (1, .int x1), (2, .int x2), (3, .int x3), (4, .int x4), (7, .int x7)]) g dk_1_asks_138 rfl rfl (by decide) rfl (pc' := 141) rfl ?_
        refine v_goto (tgt := 95) g dk_1_asks_141 (by decide) ?_
        refine v_sub [1, 2, 3, 4, 5, 6, 0] rfl ?_
        exact ih (x8 + 1) o hf hx hret
      · replace hf := ifT hc hf
        refine v_aload_n g dk_1_asks_113 0 rfl rfl (pc' := 114) rfl ?_
        refine gfM_X_31 g hK dk_1_asks_114 (pc' := 117) rfl ?_
        refine v_iload g dk_1_asks_117 6 rfl (pc' := 119) rfl ?_
        refine alM_8 g hK hb4 dk_1_asks_119 (pc' := 120) rfl ?_
        refine v_iload_n g dk_1_asks_120 3 rfl rfl (pc' := 121) rfl ?_
        refine v_icmp_ne (tgt := 138) (pc' := 124) g dk_1_asks_121 (by decide) rfl (fun hc => ?_) (fun hc => ?_)
        · replace hf := ifF hc hf
          refine v_iinc (j := 6) (v := x8 + 1) (lv' := [(8, .int (x8 + 1)), (0, .ref (ad 0)), (1, .int x1), (2, .int x2), (3, .int x3), (4, .int x4), (7, .int x7)]) g dk_1_asks_138 rfl rfl (by decide) rfl (pc' := 141) rfl ?_
          refine v_goto (tgt := 95) g dk_1_asks_141 (by decide) ?_
          refine v_sub [1, 2, 3, 4, 5, 6, 0] rfl ?_
          exact ih (x8 + 1) o hf hx hret
        · replace hf := ifT hc hf
          refine v_aload_n g dk_1_asks_124 0 rfl rfl (pc' := 125) rfl ?_
          refine gfM_X_34 g hK dk_1_asks_125 (pc' := 128) rfl ?_
          refine v_iload g dk_1_asks_128 6 rfl (pc' := 130) rfl ?_
          refine alM_9 g hK hb4 dk_1_asks_130 (pc' := 131) rfl ?_
          refine v_iload g dk_1_asks_131 4 rfl (pc' := 133) rfl ?_
          refine v_icmp_ne (tgt := 138) (pc' := 136) g dk_1_asks_133 (by decide) rfl (fun hc => ?_) (fun hc => ?_)
          · replace hf := ifF hc hf
            refine v_iinc (j := 6) (v := x8 + 1) (lv' := [(8, .int (x8 + 1)), (0, .ref (ad 0)), (1, .int x1), (2, .int x2), (3, .int x3), (4, .int x4), (7, .int x7)]) g dk_1_asks_138 rfl rfl (by decide) rfl (pc' := 141) rfl ?_
            refine v_goto (tgt := 95) g dk_1_asks_141 (by decide) ?_
            refine v_sub [1, 2, 3, 4, 5, 6, 0] rfl ?_
            exact ih (x8 + 1) o hf hx hret
          · replace hf := ifT hc hf
            refine v_iconst (v := 0) g dk_1_asks_136 (by decide) (pc' := 137) rfl ?_
            exact v_zret g hr hlk hK rfl (hret _ (Option.some.inj hf).symm) dk_1_asks_137
def m_MX_asks (S : StM) (x1 : Int32) (x2 : Int32) (x3 : Int32) (x4 : Int32) : Option (Int32 × StM) :=
  (m_MX_in S x1 (gI S 3)).bind fun q1 =>
    if q1 = 0 then if (0 : Int32) = 0 then some (0, S)
    else if inb x1 40 = true then if (gA S 6 x1.toNatClampNeg) = 6 then some (0, S)
    else (m_MX_isUsed S x1).bind fun q3 =>
    if q3 = 0 then (L_MX_asks_95 S x1 x2 x3 x4 (((6 : Int32) * x1) + (gA S 6 x1.toNatClampNeg)) 100 ((6 : Int32) * x1)).bind fun o5 => exK o5 fun y6 =>
    if inb (((6 : Int32) * x1) + (gA S 6 x1.toNatClampNeg)) 240 = true then some (1, tA (tA (tA (tA S 9 (((6 : Int32) * x1) + (gA S 6 x1.toNatClampNeg)) (vp_nar .boolean x2)) 7 (((6 : Int32) * x1) + (gA S 6 x1.toNatClampNeg)) x3) 8 (((6 : Int32) * x1) + (gA S 6 x1.toNatClampNeg)) x4) 6 x1 ((gA S 6 x1.toNatClampNeg) + (1 : Int32))) else none
    else some (0, S) else none
    else if x2 = 0 then (m_MX_in S x3 (gI S 0)).bind fun q8 =>
    if q8 = 0 then if (0 : Int32) = 0 then some (0, S)
    else if inb x1 40 = true then if (gA S 6 x1.toNatClampNeg) = 6 then some (0, S)
    else (m_MX_isUsed S x1).bind fun q10 =>
    if q10 = 0 then (L_MX_asks_95 S x1 x2 x3 x4 (((6 : Int32) * x1) + (gA S 6 x1.toNatClampNeg)) 100 ((6 : Int32) * x1)).bind fun o11 => exK o11 fun y12 =>
    if inb (((6 : Int32) * x1) + (gA S 6 x1.toNatClampNeg)) 240 = true then some (1, tA (tA (tA (tA S 9 (((6 : Int32) * x1) + (gA S 6 x1.toNatClampNeg)) (vp_nar .boolean x2)) 7 (((6 : Int32) * x1) + (gA S 6 x1.toNatClampNeg)) x3) 8 (((6 : Int32) * x1) + (gA S 6 x1.toNatClampNeg)) x4) 6 x1 ((gA S 6 x1.toNatClampNeg) + (1 : Int32))) else none
    else some (0, S) else none
    else (m_MX_in S x4 8).bind fun q14 =>
    if q14 = 0 then if (0 : Int32) = 0 then some (0, S)
    else if inb x1 40 = true then if (gA S 6 x1.toNatClampNeg) = 6 then some (0, S)
    else (m_MX_isUsed S x1).bind fun q16 =>
    if q16 = 0 then (L_MX_asks_95 S x1 x2 x3 x4 (((6 : Int32) * x1) + (gA S 6 x1.toNatClampNeg)) 100 ((6 : Int32) * x1)).bind fun o17 => exK o17 fun y18 =>
    if inb (((6 : Int32) * x1) + (gA S 6 x1.toNatClampNeg)) 240 = true then some (1, tA (tA (tA (tA S 9 (((6 : Int32) * x1) + (gA S 6 x1.toNatClampNeg)) (vp_nar .boolean x2)) 7 (((6 : Int32) * x1) + (gA S 6 x1.toNatClampNeg)) x3) 8 (((6 : Int32) * x1) + (gA S 6 x1.toNatClampNeg)) x4) 6 x1 ((gA S 6 x1.toNatClampNeg) + (1 : Int32))) else none
    else some (0, S) else none
    else if (1 : Int32) = 0 then some (0, S)
    else if inb x1 40 = true then if (gA S 6 x1.toNatClampNeg) = 6 then some (0, S)
    else (m_MX_isUsed S x1).bind fun q21 =>
    if q21 = 0 then (L_MX_asks_95 S x1 x2 x3 x4 (((6 : Int32) * x1) + (gA S 6 x1.toNatClampNeg)) 100 ((6 : Int32) * x1)).bind fun o22 => exK o22 fun y23 =>
    if inb (((6 : Int32) * x1) + (gA S 6 x1.toNatClampNeg)) 240 = true then some (1, tA (tA (tA (tA S 9 (((6 : Int32) * x1) + (gA S 6 x1.toNatClampNeg)) (vp_nar .boolean x2)) 7 (((6 : Int32) * x1) + (gA S 6 x1.toNatClampNeg)) x3) 8 (((6 : Int32) * x1) + (gA S 6 x1.toNatClampNeg)) x4) 6 x1 ((gA S 6 x1.toNatClampNeg) + (1 : Int32))) else none
    else some (0, S) else none
    else (m_MX_in S x3 8).bind fun q25 =>
    if q25 = 0 then if (0 : Int32) = 0 then some (0, S)
    else if inb x1 40 = true then if (gA S 6 x1.toNatClampNeg) = 6 then some (0, S)
    else (m_MX_isUsed S x1).bind fun q27 =>
    if q27 = 0 then (L_MX_asks_95 S x1 x2 x3 x4 (((6 : Int32) * x1) + (gA S 6 x1.toNatClampNeg)) 100 ((6 : Int32) * x1)).bind fun o28 => exK o28 fun y29 =>
    if inb (((6 : Int32) * x1) + (gA S 6 x1.toNatClampNeg)) 240 = true then some (1, tA (tA (tA (tA S 9 (((6 : Int32) * x1) + (gA S 6 x1.toNatClampNeg)) (vp_nar .boolean x2)) 7 (((6 : Int32) * x1) + (gA S 6 x1.toNatClampNeg)) x3) 8 (((6 : Int32) * x1) + (gA S 6 x1.toNatClampNeg)) x4) 6 x1 ((gA S 6 x1.toNatClampNeg) + (1 : Int32))) else none
    else some (0, S) else none
    else (m_MX_in S x4 8).bind fun q31 =>
    if q31 = 0 then if (0 : Int32) = 0 then some (0, S)
    else if inb x1 40 = true then if (gA S 6 x1.toNatClampNeg) = 6 then some (0, S)
    else (m_MX_isUsed S x1).bind fun q33 =>
    if q33 = 0 then (L_MX_asks_95 S x1 x2 x3 x4 (((6 : Int32) * x1) + (gA S 6 x1.toNatClampNeg)) 100 ((6 : Int32) * x1)).bind fun o34 => exK o34 fun y35 =>
    if inb (((6 : Int32) * x1) + (gA S 6 x1.toNatClampNeg)) 240 = true then some (1, tA (tA (tA (tA S 9 (((6 : Int32) * x1) + (gA S 6 x1.toNatClampNeg)) (vp_nar .boolean x2)) 7 (((6 : Int32) * x1) + (gA S 6 x1.toNatClampNeg)) x3) 8 (((6 : Int32) * x1) + (gA S 6 x1.toNatClampNeg)) x4) 6 x1 ((gA S 6 x1.toNatClampNeg) + (1 : Int32))) else none
    else some (0, S) else none
    else if (1 : Int32) = 0 then some (0, S)
    else if inb x1 40 = true then if (gA S 6 x1.toNatClampNeg) = 6 then some (0, S)
    else (m_MX_isUsed S x1).bind fun q38 =>
    if q38 = 0 then (L_MX_asks_95 S x1 x2 x3 x4 (((6 : Int32) * x1) + (gA S 6 x1.toNatClampNeg)) 100 ((6 : Int32) * x1)).bind fun o39 => exK o39 fun y40 =>
    if inb (((6 : Int32) * x1) + (gA S 6 x1.toNatClampNeg)) 240 = true then some (1, tA (tA (tA (tA S 9 (((6 : Int32) * x1) + (gA S 6 x1.toNatClampNeg)) (vp_nar .boolean x2)) 7 (((6 : Int32) * x1) + (gA S 6 x1.toNatClampNeg)) x3) 8 (((6 : Int32) * x1) + (gA S 6 x1.toNatClampNeg)) x4) 6 x1 ((gA S 6 x1.toNatClampNeg) + (1 : Int32))) else none
    else some (0, S) else none
set_option maxHeartbeats 4000000 in
set_option maxRecDepth 100000 in
theorem c_MX_asks {l : Launch} {D : va_G} {ad : Nat → Nat} {ca : Nat → ClassId} {S : StM} {x1 : Int32} {x2 : Int32} {x3 : Int32} {x4 : Int32} {r : Int32 × StM} (hf : m_MX_asks S x1 x2 x3 x4 = some r) : KIM l D ad ca yk_1_asks (.code yk_1_asks bk_1_asks 9 (some .boolean) :: tb) rm_MX_asks [.ref (ad 0), .int x1, .int x2, .int x3, .int x4] S r := by
  refine met_z (by decide) (Nat.le_of_ble_eq_true rfl) (fun p e s m below meth c A g hr hlk hK hA => ?_)
  replace g : CallFix p m c bk_1_asks 9 s _ tb Rk_1 := g
  refine v_lv (lv' := [(0, .ref (ad 0)), (1, .int x1), (2, .int x2), (3, .int x3), (4, .int x4)]) rfl ?_
  unfold m_MX_asks at hf
  refine v_iload_n g dk_1_asks_0 1 rfl rfl (pc' := 1) rfl ?_
  refine v_aload_n g dk_1_asks_1 0 rfl rfl (pc' := 2) rfl ?_
  refine gfM_X_116 g hK dk_1_asks_2 (pc' := 5) rfl ?_
  obtain ⟨q1, hq, hf⟩ := bnd hf
  refine v_callS_i (As := [.int x1, .int (gI S 3)]) (rest := []) (r := q1) (S1 := S) g hK hA (c_MX_in hq) (kcM_X_102 g.2.2.2.2 rfl rfl (Nat.le_of_ble_eq_true rfl) (Nat.le_of_ble_eq_true rfl)) rfl rfl (Nat.le_of_ble_eq_true rfl) dk_1_asks_5 (Nat.zero_le _) (Nat.zero_le _) (pc' := 8) rfl ?_
  refine v_if_eq (tgt := 45) (pc' := 11) g dk_1_asks_8 (by decide) rfl (fun hc => ?_) (fun hc => ?_)
  · replace hf := ifT hc hf
    refine v_iconst (v := 0) g dk_1_asks_45 (by decide) (pc' := 46) rfl ?_
    refine v_istore (lv' := [(5, .int 0), (0, .ref (ad 0)), (1, .int x1), (2, .int x2), (3, .int x3), (4, .int x4)]) g dk_1_asks_46 (by decide) rfl (pc' := 48) rfl ?_
    refine v_iload g dk_1_asks_48 0 rfl (pc' := 50) rfl ?_
    refine v_if_eq (tgt := 72) (pc' := 53) g dk_1_asks_50 (by decide) rfl (fun hc => ?_) (fun hc => ?_)
    · replace hf := ifT hc hf
      refine v_iconst (v := 0) g dk_1_asks_72 (by decide) (pc' := 73) rfl ?_
      exact v_zret g hr hlk hK rfl (Option.some.inj hf) dk_1_asks_73
    · replace hf := ifF hc hf
      refine v_aload_n g dk_1_asks_53 1 rfl rfl (pc' := 54) rfl ?_
      refine gfM_X_28 g hK dk_1_asks_54 (pc' := 57) rfl ?_
      refine v_iload_n g dk_1_asks_57 2 rfl rfl (pc' := 58) rfl ?_
      obtain ⟨hb2, hf⟩ := grd hf
      refine alM_7 g hK hb2 dk_1_asks_58 (pc' := 59) rfl ?_
      refine v_bipush (v := 6) g dk_1_asks_59 (by decide) (pc' := 61) rfl ?_
      refine v_icmp_eq (tgt := 72) (pc' := 64) g dk_1_asks_61 (by decide) rfl (fun hc => ?_) (fun hc => ?_)
      · replace hf := ifT hc hf
        refine v_iconst (v := 0) g dk_1_asks_72 (by decide) (pc' := 73) rfl ?_
        exact v_zret g hr hlk hK rfl (Option.some.inj hf) dk_1_asks_73
      · replace hf := ifF hc hf
        refine v_aload_n g dk_1_asks_64 1 rfl rfl (pc' := 65) rfl ?_
        refine v_iload_n g dk_1_asks_65 2 rfl rfl (pc' := 66) rfl ?_
        obtain ⟨q3, hq, hf⟩ := bnd hf
        refine v_callV_i (As := [.int x1]) (rest := []) (r := q3) (S1 := S) g hK hA (c_MX_isUsed hq) (kcM_X_122 g.2.2.2.2 rfl rfl (Nat.le_of_ble_eq_true rfl) (Nat.le_of_ble_eq_true rfl)) (ci := 1) (q0 := 0) rfl rfl rfl rfl rfl (Nat.le_of_ble_eq_true rfl) dk_1_asks_66 (Nat.zero_le _) (Nat.zero_le _) (pc' := 69) rfl ?_
        refine v_if_eq (tgt := 74) (pc' := 72) g dk_1_asks_69 (by decide) rfl (fun hc => ?_) (fun hc => ?_)
        · replace hf := ifT hc hf
          refine v_bipush (v := 6) g dk_1_asks_74 (by decide) (pc' := 76) rfl ?_
          refine v_iload_n g dk_1_asks_76 2 rfl rfl (pc' := 77) rfl ?_
          refine v_imul g dk_1_asks_77 (pc' := 78) rfl ?_
          refine v_istore (lv' := [(6, .int ((6 : Int32) * x1)), (5, .int 0), (0, .ref (ad 0)), (1, .int x1), (2, .int x2), (3, .int x3), (4, .int x4)]) g dk_1_asks_78 (by decide) rfl (pc' := 80) rfl ?_
          refine v_iload g dk_1_asks_80 0 rfl (pc' := 82) rfl ?_
          refine v_aload_n g dk_1_asks_82 2 rfl rfl (pc' := 83) rfl ?_
          refine gfM_X_28 g hK dk_1_asks_83 (pc' := 86) rfl ?_
          refine v_iload_n g dk_1_asks_86 3 rfl rfl (pc' := 87) rfl ?_
          refine alM_7 g hK hb2 dk_1_asks_87 (pc' := 88) rfl ?_
          refine v_iadd g dk_1_asks_88 (pc' := 89) rfl ?_
          refine v_istore (lv' := [(7, .int (((6 : Int32) * x1) + (gA S 6 x1.toNatClampNeg))), (6, .int ((6 : Int32) * x1)), (5, .int 0), (0, .ref (ad 0)), (1, .int x1), (2, .int x2), (3, .int x3), (4, .int x4)]) g dk_1_asks_89 (by decide) rfl (pc' := 91) rfl ?_
          refine v_iload g dk_1_asks_91 1 rfl (pc' := 93) rfl ?_
          refine v_istore (lv' := [(8, .int ((6 : Int32) * x1)), (7, .int (((6 : Int32) * x1) + (gA S 6 x1.toNatClampNeg))), (6, .int ((6 : Int32) * x1)), (5, .int 0), (0, .ref (ad 0)), (1, .int x1), (2, .int x2), (3, .int x3), (4, .int x4)]) g dk_1_asks_93 (by decide) rfl (pc' := 95) rfl ?_
          refine v_sub [4, 5, 6, 7, 8, 1, 0] rfl ?_
          obtain ⟨o5, hL, hf⟩ := bnd hf
          refine w_MX_asks_95 g hr hlk hK hA 100 ((6 : Int32) * x1) _ hL (fun y6 hy => ?_) (fun r9 hy => ?_)
          · subst hy
            replace hf := exKl hf
            refine v_aload_n g dk_1_asks_144 0 rfl rfl (pc' := 145) rfl ?_
            refine gfM_X_37 g hK dk_1_asks_145 (pc' := 148) rfl ?_
            refine v_iload g dk_1_asks_148 5 rfl (pc' := 150) rfl ?_
            refine v_iload_n g dk_1_asks_150 2 rfl rfl (pc' := 151) rfl ?_
            obtain ⟨hb7, hf⟩ := grd hf
            refine asM_10 g hK hb7 dk_1_asks_151 (pc' := 152) rfl ?_
            refine v_aload_n g dk_1_asks_152 0 rfl rfl (pc' := 153) rfl ?_
            refine gfM_X_31 g hK dk_1_asks_153 (pc' := 156) rfl ?_
            refine v_iload g dk_1_asks_156 5 rfl (pc' := 158) rfl ?_
            refine v_iload_n g dk_1_asks_158 3 rfl rfl (pc' := 159) rfl ?_
            refine asM_8 g hK hb7 dk_1_asks_159 (pc' := 160) rfl ?_
            refine v_aload_n g dk_1_asks_160 0 rfl rfl (pc' := 161) rfl ?_
            refine gfM_X_34 g hK dk_1_asks_161 (pc' := 164) rfl ?_
            refine v_iload g dk_1_asks_164 5 rfl (pc' := 166) rfl ?_
            refine v_iload g dk_1_asks_166 4 rfl (pc' := 168) rfl ?_
            refine asM_9 g hK hb7 dk_1_asks_168 (pc' := 169) rfl ?_
            refine v_aload_n g dk_1_asks_169 0 rfl rfl (pc' := 170) rfl ?_
            refine gfM_X_28 g hK dk_1_asks_170 (pc' := 173) rfl ?_
            refine v_iload_n g dk_1_asks_173 1 rfl rfl (pc' := 174) rfl ?_
            refine v_dup2 g dk_1_asks_174 rfl rfl (pc' := 175) rfl ?_
            refine alM_7 g hK hb2 dk_1_asks_175 (pc' := 176) rfl ?_
            refine v_iconst (v := 1) g dk_1_asks_176 (by decide) (pc' := 177) rfl ?_
            refine v_iadd g dk_1_asks_177 (pc' := 178) rfl ?_
            refine asM_7 g hK hb2 dk_1_asks_178 (pc' := 179) rfl ?_
            refine v_iconst (v := 1) g dk_1_asks_179 (by decide) (pc' := 180) rfl ?_
            exact v_zret g hr hlk hK rfl (Option.some.inj hf) dk_1_asks_180
          · subst hy
            exact Option.some.inj hf
        · replace hf := ifF hc hf
          refine v_iconst (v := 0) g dk_1_asks_72 (by decide) (pc' := 73) rfl ?_
          exact v_zret g hr hlk hK rfl (Option.some.inj hf) dk_1_asks_73
  · replace hf := ifF hc hf
    refine v_iload_n g dk_1_asks_11 3 rfl rfl (pc' := 12) rfl ?_
    refine v_iload_n g dk_1_asks_12 2 rfl rfl (pc' := 13) rfl ?_
    refine v_if_eq (tgt := 21) (pc' := 16) g dk_1_asks_13 (by decide) rfl (fun hc => ?_) (fun hc => ?_)
    · replace hf := ifT hc hf
      refine v_aload_n g dk_1_asks_21 0 rfl rfl (pc' := 22) rfl ?_
      refine gfM_X_99 g hK dk_1_asks_22 (pc' := 25) rfl ?_
      obtain ⟨q8, hq, hf⟩ := bnd hf
      refine v_callS_i (As := [.int x3, .int (gI S 0)]) (rest := []) (r := q8) (S1 := S) g hK hA (c_MX_in hq) (kcM_X_102 g.2.2.2.2 rfl rfl (Nat.le_of_ble_eq_true rfl) (Nat.le_of_ble_eq_true rfl)) rfl rfl (Nat.le_of_ble_eq_true rfl) dk_1_asks_25 (Nat.zero_le _) (Nat.zero_le _) (pc' := 28) rfl ?_
      refine v_if_eq (tgt := 45) (pc' := 31) g dk_1_asks_28 (by decide) rfl (fun hc => ?_) (fun hc => ?_)
      · replace hf := ifT hc hf
        refine v_iconst (v := 0) g dk_1_asks_45 (by decide) (pc' := 46) rfl ?_
        refine v_istore (lv' := [(5, .int 0), (0, .ref (ad 0)), (1, .int x1), (2, .int x2), (3, .int x3), (4, .int x4)]) g dk_1_asks_46 (by decide) rfl (pc' := 48) rfl ?_
        refine v_iload g dk_1_asks_48 0 rfl (pc' := 50) rfl ?_
        refine v_if_eq (tgt := 72) (pc' := 53) g dk_1_asks_50 (by decide) rfl (fun hc => ?_) (fun hc => ?_)
        · replace hf := ifT hc hf
          refine v_iconst (v := 0) g dk_1_asks_72 (by decide) (pc' := 73) rfl ?_
          exact v_zret g hr hlk hK rfl (Option.some.inj hf) dk_1_asks_73
        · replace hf := ifF hc hf
          refine v_aload_n g dk_1_asks_53 1 rfl rfl (pc' := 54) rfl ?_
          refine gfM_X_28 g hK dk_1_asks_54 (pc' := 57) rfl ?_
          refine v_iload_n g dk_1_asks_57 2 rfl rfl (pc' := 58) rfl ?_
          obtain ⟨hb9, hf⟩ := grd hf
          refine alM_7 g hK hb9 dk_1_asks_58 (pc' := 59) rfl ?_
          refine v_bipush (v := 6) g dk_1_asks_59 (by decide) (pc' := 61) rfl ?_
          refine v_icmp_eq (tgt := 72) (pc' := 64) g dk_1_asks_61 (by decide) rfl (fun hc => ?_) (fun hc => ?_)
          · replace hf := ifT hc hf
            refine v_iconst (v := 0) g dk_1_asks_72 (by decide) (pc' := 73) rfl ?_
            exact v_zret g hr hlk hK rfl (Option.some.inj hf) dk_1_asks_73
          · replace hf := ifF hc hf
            refine v_aload_n g dk_1_asks_64 1 rfl rfl (pc' := 65) rfl ?_
            refine v_iload_n g dk_1_asks_65 2 rfl rfl (pc' := 66) rfl ?_
            obtain ⟨q10, hq, hf⟩ := bnd hf
            refine v_callV_i (As := [.int x1]) (rest := []) (r := q10) (S1 := S) g hK hA (c_MX_isUsed hq) (kcM_X_122 g.2.2.2.2 rfl rfl (Nat.le_of_ble_eq_true rfl) (Nat.le_of_ble_eq_true rfl)) (ci := 1) (q0 := 0) rfl rfl rfl rfl rfl (Nat.le_of_ble_eq_true rfl) dk_1_asks_66 (Nat.zero_le _) (Nat.zero_le _) (pc' := 69) rfl ?_
            refine v_if_eq (tgt := 74) (pc' := 72) g dk_1_asks_69 (by decide) rfl (fun hc => ?_) (fun hc => ?_)
            · replace hf := ifT hc hf
              refine v_bipush (v := 6) g dk_1_asks_74 (by decide) (pc' := 76) rfl ?_
              refine v_iload_n g dk_1_asks_76 2 rfl rfl (pc' := 77) rfl ?_
              refine v_imul g dk_1_asks_77 (pc' := 78) rfl ?_
              refine v_istore (lv' := [(6, .int ((6 : Int32) * x1)), (5, .int 0), (0, .ref (ad 0)), (1, .int x1), (2, .int x2), (3, .int x3), (4, .int x4)]) g dk_1_asks_78 (by decide) rfl (pc' := 80) rfl ?_
              refine v_iload g dk_1_asks_80 0 rfl (pc' := 82) rfl ?_
              refine v_aload_n g dk_1_asks_82 2 rfl rfl (pc' := 83) rfl ?_
              refine gfM_X_28 g hK dk_1_asks_83 (pc' := 86) rfl ?_
              refine v_iload_n g dk_1_asks_86 3 rfl rfl (pc' := 87) rfl ?_
              refine alM_7 g hK hb9 dk_1_asks_87 (pc' := 88) rfl ?_
              refine v_iadd g dk_1_asks_88 (pc' := 89) rfl ?_
              refine v_istore (lv' := [(7, .int (((6 : Int32) * x1) + (gA S 6 x1.toNatClampNeg))), (6, .int ((6 : Int32) * x1)), (5, .int 0), (0, .ref (ad 0)), (1, .int x1), (2, .int x2), (3, .int x3), (4, .int x4)]) g dk_1_asks_89 (by decide) rfl (pc' := 91) rfl ?_
              refine v_iload g dk_1_asks_91 1 rfl (pc' := 93) rfl ?_
              refine v_istore (lv' := [(8, .int ((6 : Int32) * x1)), (7, .int (((6 : Int32) * x1) + (gA S 6 x1.toNatClampNeg))), (6, .int ((6 : Int32) * x1)), (5, .int 0), (0, .ref (ad 0)), (1, .int x1), (2, .int x2), (3, .int x3), (4, .int x4)]) g dk_1_asks_93 (by decide) rfl (pc' := 95) rfl ?_
              refine v_sub [4, 5, 6, 7, 8, 1, 0] rfl ?_
              obtain ⟨o11, hL, hf⟩ := bnd hf
              refine w_MX_asks_95 g hr hlk hK hA 100 ((6 : Int32) * x1) _ hL (fun y12 hy => ?_) (fun r9 hy => ?_)
              · subst hy
                replace hf := exKl hf
                refine v_aload_n g dk_1_asks_144 0 rfl rfl (pc' := 145) rfl ?_
                refine gfM_X_37 g hK dk_1_asks_145 (pc' := 148) rfl ?_
                refine v_iload g dk_1_asks_148 5 rfl (pc' := 150) rfl ?_
                refine v_iload_n g dk_1_asks_150 2 rfl rfl (pc' := 151) rfl ?_
                obtain ⟨hb13, hf⟩ := grd hf
                refine asM_10 g hK hb13 dk_1_asks_151 (pc' := 152) rfl ?_
                refine v_aload_n g dk_1_asks_152 0 rfl rfl (pc' := 153) rfl ?_
                refine gfM_X_31 g hK dk_1_asks_153 (pc' := 156) rfl ?_
                refine v_iload g dk_1_asks_156 5 rfl (pc' := 158) rfl ?_
                refine v_iload_n g dk_1_asks_158 3 rfl rfl (pc' := 159) rfl ?_
                refine asM_8 g hK hb13 dk_1_asks_159 (pc' := 160) rfl ?_
                refine v_aload_n g dk_1_asks_160 0 rfl rfl (pc' := 161) rfl ?_
                refine gfM_X_34 g hK dk_1_asks_161 (pc' := 164) rfl ?_
                refine v_iload g dk_1_asks_164 5 rfl (pc' := 166) rfl ?_
                refine v_iload g dk_1_asks_166 4 rfl (pc' := 168) rfl ?_
                refine asM_9 g hK hb13 dk_1_asks_168 (pc' := 169) rfl ?_
                refine v_aload_n g dk_1_asks_169 0 rfl rfl (pc' := 170) rfl ?_
                refine gfM_X_28 g hK dk_1_asks_170 (pc' := 173) rfl ?_
                refine v_iload_n g dk_1_asks_173 1 rfl rfl (pc' := 174) rfl ?_
                refine v_dup2 g dk_1_asks_174 rfl rfl (pc' := 175) rfl ?_
                refine alM_7 g hK hb9 dk_1_asks_175 (pc' := 176) rfl ?_
                refine v_iconst (v := 1) g dk_1_asks_176 (by decide) (pc' := 177) rfl ?_
                refine v_iadd g dk_1_asks_177 (pc' := 178) rfl ?_
                refine asM_7 g hK hb9 dk_1_asks_178 (pc' := 179) rfl ?_
                refine v_iconst (v := 1) g dk_1_asks_179 (by decide) (pc' := 180) rfl ?_
                exact v_zret g hr hlk hK rfl (Option.some.inj hf) dk_1_asks_180
              · subst hy
                exact Option.some.inj hf
            · replace hf := ifF hc hf
              refine v_iconst (v := 0) g dk_1_asks_72 (by decide) (pc' := 73) rfl ?_
              exact v_zret g hr hlk hK rfl (Option.some.inj hf) dk_1_asks_73
      · replace hf := ifF hc hf
        refine v_iload g dk_1_asks_31 4 rfl (pc' := 33) rfl ?_
        refine v_bipush (v := 8) g dk_1_asks_33 (by decide) (pc' := 35) rfl ?_
        obtain ⟨q14, hq, hf⟩ := bnd hf
        refine v_callS_i (As := [.int x4, .int 8]) (rest := []) (r := q14) (S1 := S) g hK hA (c_MX_in hq) (kcM_X_102 g.2.2.2.2 rfl rfl (Nat.le_of_ble_eq_true rfl) (Nat.le_of_ble_eq_true rfl)) rfl rfl (Nat.le_of_ble_eq_true rfl) dk_1_asks_35 (Nat.zero_le _) (Nat.zero_le _) (pc' := 38) rfl ?_
        refine v_if_eq (tgt := 45) (pc' := 41) g dk_1_asks_38 (by decide) rfl (fun hc => ?_) (fun hc => ?_)
        · replace hf := ifT hc hf
          refine v_iconst (v := 0) g dk_1_asks_45 (by decide) (pc' := 46) rfl ?_
          refine v_istore (lv' := [(5, .int 0), (0, .ref (ad 0)), (1, .int x1), (2, .int x2), (3, .int x3), (4, .int x4)]) g dk_1_asks_46 (by decide) rfl (pc' := 48) rfl ?_
          refine v_iload g dk_1_asks_48 0 rfl (pc' := 50) rfl ?_
          refine v_if_eq (tgt := 72) (pc' := 53) g dk_1_asks_50 (by decide) rfl (fun hc => ?_) (fun hc => ?_)
          · replace hf := ifT hc hf
            refine v_iconst (v := 0) g dk_1_asks_72 (by decide) (pc' := 73) rfl ?_
            exact v_zret g hr hlk hK rfl (Option.some.inj hf) dk_1_asks_73
          · replace hf := ifF hc hf
            refine v_aload_n g dk_1_asks_53 1 rfl rfl (pc' := 54) rfl ?_
            refine gfM_X_28 g hK dk_1_asks_54 (pc' := 57) rfl ?_
            refine v_iload_n g dk_1_asks_57 2 rfl rfl (pc' := 58) rfl ?_
            obtain ⟨hb15, hf⟩ := grd hf
            refine alM_7 g hK hb15 dk_1_asks_58 (pc' := 59) rfl ?_
            refine v_bipush (v := 6) g dk_1_asks_59 (by decide) (pc' := 61) rfl ?_
            refine v_icmp_eq (tgt := 72) (pc' := 64) g dk_1_asks_61 (by decide) rfl (fun hc => ?_) (fun hc => ?_)
            · replace hf := ifT hc hf
              refine v_iconst (v := 0) g dk_1_asks_72 (by decide) (pc' := 73) rfl ?_
              exact v_zret g hr hlk hK rfl (Option.some.inj hf) dk_1_asks_73
            · replace hf := ifF hc hf
              refine v_aload_n g dk_1_asks_64 1 rfl rfl (pc' := 65) rfl ?_
              refine v_iload_n g dk_1_asks_65 2 rfl rfl (pc' := 66) rfl ?_
              obtain ⟨q16, hq, hf⟩ := bnd hf
              refine v_callV_i (As := [.int x1]) (rest := []) (r := q16) (S1 := S) g hK hA (c_MX_isUsed hq) (kcM_X_122 g.2.2.2.2 rfl rfl (Nat.le_of_ble_eq_true rfl) (Nat.le_of_ble_eq_true rfl)) (ci := 1) (q0 := 0) rfl rfl rfl rfl rfl (Nat.le_of_ble_eq_true rfl) dk_1_asks_66 (Nat.zero_le _) (Nat.zero_le _) (pc' := 69) rfl ?_
              refine v_if_eq (tgt := 74) (pc' := 72) g dk_1_asks_69 (by decide) rfl (fun hc => ?_) (fun hc => ?_)
              · replace hf := ifT hc hf
                refine v_bipush (v := 6) g dk_1_asks_74 (by decide) (pc' := 76) rfl ?_
                refine v_iload_n g dk_1_asks_76 2 rfl rfl (pc' := 77) rfl ?_
                refine v_imul g dk_1_asks_77 (pc' := 78) rfl ?_
                refine v_istore (lv' := [(6, .int ((6 : Int32) * x1)), (5, .int 0), (0, .ref (ad 0)), (1, .int x1), (2, .int x2), (3, .int x3), (4, .int x4)]) g dk_1_asks_78 (by decide) rfl (pc' := 80) rfl ?_
                refine v_iload g dk_1_asks_80 0 rfl (pc' := 82) rfl ?_
                refine v_aload_n g dk_1_asks_82 2 rfl rfl (pc' := 83) rfl ?_
                refine gfM_X_28 g hK dk_1_asks_83 (pc' := 86) rfl ?_
                refine v_iload_n g dk_1_asks_86 3 rfl rfl (pc' := 87) rfl ?_
                refine alM_7 g hK hb15 dk_1_asks_87 (pc' := 88) rfl ?_
                refine v_iadd g dk_1_asks_88 (pc' := 89) rfl ?_
                refine v_istore (lv' := [(7, .int (((6 : Int32) * x1) + (gA S 6 x1.toNatClampNeg))), (6, .int ((6 : Int32) * x1)), (5, .int 0), (0, .ref (ad 0)), (1, .int x1), (2, .int x2), (3, .int x3), (4, .int x4)]) g dk_1_asks_89 (by decide) rfl (pc' := 91) rfl ?_
                refine v_iload g dk_1_asks_91 1 rfl (pc' := 93) rfl ?_
                refine v_istore (lv' := [(8, .int ((6 : Int32) * x1)), (7, .int (((6 : Int32) * x1) + (gA S 6 x1.toNatClampNeg))), (6, .int ((6 : Int32) * x1)), (5, .int 0), (0, .ref (ad 0)), (1, .int x1), (2, .int x2), (3, .int x3), (4, .int x4)]) g dk_1_asks_93 (by decide) rfl (pc' := 95) rfl ?_
                refine v_sub [4, 5, 6, 7, 8, 1, 0] rfl ?_
                obtain ⟨o17, hL, hf⟩ := bnd hf
                refine w_MX_asks_95 g hr hlk hK hA 100 ((6 : Int32) * x1) _ hL (fun y18 hy => ?_) (fun r9 hy => ?_)
                · subst hy
                  replace hf := exKl hf
                  refine v_aload_n g dk_1_asks_144 0 rfl rfl (pc' := 145) rfl ?_
                  refine gfM_X_37 g hK dk_1_asks_145 (pc' := 148) rfl ?_
                  refine v_iload g dk_1_asks_148 5 rfl (pc' := 150) rfl ?_
                  refine v_iload_n g dk_1_asks_150 2 rfl rfl (pc' := 151) rfl ?_
                  obtain ⟨hb19, hf⟩ := grd hf
                  refine asM_10 g hK hb19 dk_1_asks_151 (pc' := 152) rfl ?_
                  refine v_aload_n g dk_1_asks_152 0 rfl rfl (pc' := 153) rfl ?_
                  refine gfM_X_31 g hK dk_1_asks_153 (pc' := 156) rfl ?_
                  refine v_iload g dk_1_asks_156 5 rfl (pc' := 158) rfl ?_
                  refine v_iload_n g dk_1_asks_158 3 rfl rfl (pc' := 159) rfl ?_
                  refine asM_8 g hK hb19 dk_1_asks_159 (pc' := 160) rfl ?_
                  refine v_aload_n g dk_1_asks_160 0 rfl rfl (pc' := 161) rfl ?_
                  refine gfM_X_34 g hK dk_1_asks_161 (pc' := 164) rfl ?_
                  refine v_iload g dk_1_asks_164 5 rfl (pc' := 166) rfl ?_
                  refine v_iload g dk_1_asks_166 4 rfl (pc' := 168) rfl ?_
                  refine asM_9 g hK hb19 dk_1_asks_168 (pc' := 169) rfl ?_
                  refine v_aload_n g dk_1_asks_169 0 rfl rfl (pc' := 170) rfl ?_
                  refine gfM_X_28 g hK dk_1_asks_170 (pc' := 173) rfl ?_
                  refine v_iload_n g dk_1_asks_173 1 rfl rfl (pc' := 174) rfl ?_
                  refine v_dup2 g dk_1_asks_174 rfl rfl (pc' := 175) rfl ?_
                  refine alM_7 g hK hb15 dk_1_asks_175 (pc' := 176) rfl ?_
                  refine v_iconst (v := 1) g dk_1_asks_176 (by decide) (pc' := 177) rfl ?_
                  refine v_iadd g dk_1_asks_177 (pc' := 178) rfl ?_
                  refine asM_7 g hK hb15 dk_1_asks_178 (pc' := 179) rfl ?_
                  refine v_iconst (v := 1) g dk_1_asks_179 (by decide) (pc' := 180) rfl ?_
                  exact v_zret g hr hlk hK rfl (Option.some.inj hf) dk_1_asks_180
                · subst hy
                  exact Option.some.inj hf
              · replace hf := ifF hc hf
                refine v_iconst (v := 0) g dk_1_asks_72 (by decide) (pc' := 73) rfl ?_
                exact v_zret g hr hlk hK rfl (Option.some.inj hf) dk_1_asks_73
        · replace hf := ifF hc hf
          refine v_iconst (v := 1) g dk_1_asks_41 (by decide) (pc' := 42) rfl ?_
          refine v_goto (tgt := 46) g dk_1_asks_42 (by decide) ?_
          refine v_istore (lv' := [(5, .int 1), (0, .ref (ad 0)), (1, .int x1), (2, .int x2), (3, .int x3), (4, .int x4)]) g dk_1_asks_46 (by decide) rfl (pc' := 48) rfl ?_
          refine v_iload g dk_1_asks_48 0 rfl (pc' := 50) rfl ?_
          refine v_if_eq (tgt := 72) (pc' := 53) g dk_1_asks_50 (by decide) rfl (fun hc => ?_) (fun hc => ?_)
          · replace hf := ifT hc hf
            refine v_iconst (v := 0) g dk_1_asks_72 (by decide) (pc' := 73) rfl ?_
            exact v_zret g hr hlk hK rfl (Option.some.inj hf) dk_1_asks_73
          · replace hf := ifF hc hf
            refine v_aload_n g dk_1_asks_53 1 rfl rfl (pc' := 54) rfl ?_
            refine gfM_X_28 g hK dk_1_asks_54 (pc' := 57) rfl ?_
            refine v_iload_n g dk_1_asks_57 2 rfl rfl (pc' := 58) rfl ?_
            obtain ⟨hb20, hf⟩ := grd hf
            refine alM_7 g hK hb20 dk_1_asks_58 (pc' := 59) rfl ?_
            refine v_bipush (v := 6) g dk_1_asks_59 (by decide) (pc' := 61) rfl ?_
            refine v_icmp_eq (tgt := 72) (pc' := 64) g dk_1_asks_61 (by decide) rfl (fun hc => ?_) (fun hc => ?_)
            · replace hf := ifT hc hf
              refine v_iconst (v := 0) g dk_1_asks_72 (by decide) (pc' := 73) rfl ?_
              exact v_zret g hr hlk hK rfl (Option.some.inj hf) dk_1_asks_73
            · replace hf := ifF hc hf
              refine v_aload_n g dk_1_asks_64 1 rfl rfl (pc' := 65) rfl ?_
              refine v_iload_n g dk_1_asks_65 2 rfl rfl (pc' := 66) rfl ?_
              obtain ⟨q21, hq, hf⟩ := bnd hf
              refine v_callV_i (As := [.int x1]) (rest := []) (r := q21) (S1 := S) g hK hA (c_MX_isUsed hq) (kcM_X_122 g.2.2.2.2 rfl rfl (Nat.le_of_ble_eq_true rfl) (Nat.le_of_ble_eq_true rfl)) (ci := 1) (q0 := 0) rfl rfl rfl rfl rfl (Nat.le_of_ble_eq_true rfl) dk_1_asks_66 (Nat.zero_le _) (Nat.zero_le _) (pc' := 69) rfl ?_
              refine v_if_eq (tgt := 74) (pc' := 72) g dk_1_asks_69 (by decide) rfl (fun hc => ?_) (fun hc => ?_)
              · replace hf := ifT hc hf
                refine v_bipush (v := 6) g dk_1_asks_74 (by decide) (pc' := 76) rfl ?_
                refine v_iload_n g dk_1_asks_76 2 rfl rfl (pc' := 77) rfl ?_
                refine v_imul g dk_1_asks_77 (pc' := 78) rfl ?_
                refine v_istore (lv' := [(6, .int ((6 : Int32) * x1)), (5, .int 1), (0, .ref (ad 0)), (1, .int x1), (2, .int x2), (3, .int x3), (4, .int x4)]) g dk_1_asks_78 (by decide) rfl (pc' := 80) rfl ?_
                refine v_iload g dk_1_asks_80 0 rfl (pc' := 82) rfl ?_
                refine v_aload_n g dk_1_asks_82 2 rfl rfl (pc' := 83) rfl ?_
                refine gfM_X_28 g hK dk_1_asks_83 (pc' := 86) rfl ?_
                refine v_iload_n g dk_1_asks_86 3 rfl rfl (pc' := 87) rfl ?_
                refine alM_7 g hK hb20 dk_1_asks_87 (pc' := 88) rfl ?_
                refine v_iadd g dk_1_asks_88 (pc' := 89) rfl ?_
                refine v_istore (lv' := [(7, .int (((6 : Int32) * x1) + (gA S 6 x1.toNatClampNeg))), (6, .int ((6 : Int32) * x1)), (5, .int 1), (0, .ref (ad 0)), (1, .int x1), (2, .int x2), (3, .int x3), (4, .int x4)]) g dk_1_asks_89 (by decide) rfl (pc' := 91) rfl ?_
                refine v_iload g dk_1_asks_91 1 rfl (pc' := 93) rfl ?_
                refine v_istore (lv' := [(8, .int ((6 : Int32) * x1)), (7, .int (((6 : Int32) * x1) + (gA S 6 x1.toNatClampNeg))), (6, .int ((6 : Int32) * x1)), (5, .int 1), (0, .ref (ad 0)), (1, .int x1), (2, .int x2), (3, .int x3), (4, .int x4)]) g dk_1_asks_93 (by decide) rfl (pc' := 95) rfl ?_
                refine v_sub [4, 5, 6, 7, 8, 1, 0] rfl ?_
                obtain ⟨o22, hL, hf⟩ := bnd hf
                refine w_MX_asks_95 g hr hlk hK hA 100 ((6 : Int32) * x1) _ hL (fun y23 hy => ?_) (fun r9 hy => ?_)
                · subst hy
                  replace hf := exKl hf
                  refine v_aload_n g dk_1_asks_144 0 rfl rfl (pc' := 145) rfl ?_
                  refine gfM_X_37 g hK dk_1_asks_145 (pc' := 148) rfl ?_
                  refine v_iload g dk_1_asks_148 5 rfl (pc' := 150) rfl ?_
                  refine v_iload_n g dk_1_asks_150 2 rfl rfl (pc' := 151) rfl ?_
                  obtain ⟨hb24, hf⟩ := grd hf
                  refine asM_10 g hK hb24 dk_1_asks_151 (pc' := 152) rfl ?_
                  refine v_aload_n g dk_1_asks_152 0 rfl rfl (pc' := 153) rfl ?_
                  refine gfM_X_31 g hK dk_1_asks_153 (pc' := 156) rfl ?_
                  refine v_iload g dk_1_asks_156 5 rfl (pc' := 158) rfl ?_
                  refine v_iload_n g dk_1_asks_158 3 rfl rfl (pc' := 159) rfl ?_
                  refine asM_8 g hK hb24 dk_1_asks_159 (pc' := 160) rfl ?_
                  refine v_aload_n g dk_1_asks_160 0 rfl rfl (pc' := 161) rfl ?_
                  refine gfM_X_34 g hK dk_1_asks_161 (pc' := 164) rfl ?_
                  refine v_iload g dk_1_asks_164 5 rfl (pc' := 166) rfl ?_
                  refine v_iload g dk_1_asks_166 4 rfl (pc' := 168) rfl ?_
                  refine asM_9 g hK hb24 dk_1_asks_168 (pc' := 169) rfl ?_
                  refine v_aload_n g dk_1_asks_169 0 rfl rfl (pc' := 170) rfl ?_
                  refine gfM_X_28 g hK dk_1_asks_170 (pc' := 173) rfl ?_
                  refine v_iload_n g dk_1_asks_173 1 rfl rfl (pc' := 174) rfl ?_
                  refine v_dup2 g dk_1_asks_174 rfl rfl (pc' := 175) rfl ?_
                  refine alM_7 g hK hb20 dk_1_asks_175 (pc' := 176) rfl ?_
                  refine v_iconst (v := 1) g dk_1_asks_176 (by decide) (pc' := 177) rfl ?_
                  refine v_iadd g dk_1_asks_177 (pc' := 178) rfl ?_
                  refine asM_7 g hK hb20 dk_1_asks_178 (pc' := 179) rfl ?_
                  refine v_iconst (v := 1) g dk_1_asks_179 (by decide) (pc' := 180) rfl ?_
                  exact v_zret g hr hlk hK rfl (Option.some.inj hf) dk_1_asks_180
                · subst hy
                  exact Option.some.inj hf
              · replace hf := ifF hc hf
                refine v_iconst (v := 0) g dk_1_asks_72 (by decide) (pc' := 73) rfl ?_
                exact v_zret g hr hlk hK rfl (Option.some.inj hf) dk_1_asks_73
    · replace hf := ifF hc hf
      refine v_bipush (v := 8) g dk_1_asks_16 (by decide) (pc' := 18) rfl ?_
      refine v_goto (tgt := 25) g dk_1_asks_18 (by decide) ?_
      obtain ⟨q25, hq, hf⟩ := bnd hf
      refine v_callS_i (As := [.int x3, .int 8]) (rest := []) (r := q25) (S1 := S) g hK hA (c_MX_in hq) (kcM_X_102 g.2.2.2.2 rfl rfl (Nat.le_of_ble_eq_true rfl) (Nat.le_of_ble_eq_true rfl)) rfl rfl (Nat.le_of_ble_eq_true rfl) dk_1_asks_25 (Nat.zero_le _) (Nat.zero_le _) (pc' := 28) rfl ?_
      refine v_if_eq (tgt := 45) (pc' := 31) g dk_1_asks_28 (by decide) rfl (fun hc => ?_) (fun hc => ?_)
      · replace hf := ifT hc hf
        refine v_iconst (v := 0) g dk_1_asks_45 (by decide) (pc' := 46) rfl ?_
        refine v_istore (lv' := [(5, .int 0), (0, .ref (ad 0)), (1, .int x1), (2, .int x2), (3, .int x3), (4, .int x4)]) g dk_1_asks_46 (by decide) rfl (pc' := 48) rfl ?_
        refine v_iload g dk_1_asks_48 0 rfl (pc' := 50) rfl ?_
        refine v_if_eq (tgt := 72) (pc' := 53) g dk_1_asks_50 (by decide) rfl (fun hc => ?_) (fun hc => ?_)
        · replace hf := ifT hc hf
          refine v_iconst (v := 0) g dk_1_asks_72 (by decide) (pc' := 73) rfl ?_
          exact v_zret g hr hlk hK rfl (Option.some.inj hf) dk_1_asks_73
        · replace hf := ifF hc hf
          refine v_aload_n g dk_1_asks_53 1 rfl rfl (pc' := 54) rfl ?_
          refine gfM_X_28 g hK dk_1_asks_54 (pc' := 57) rfl ?_
          refine v_iload_n g dk_1_asks_57 2 rfl rfl (pc' := 58) rfl ?_
          obtain ⟨hb26, hf⟩ := grd hf
          refine alM_7 g hK hb26 dk_1_asks_58 (pc' := 59) rfl ?_
          refine v_bipush (v := 6) g dk_1_asks_59 (by decide) (pc' := 61) rfl ?_
          refine v_icmp_eq (tgt := 72) (pc' := 64) g dk_1_asks_61 (by decide) rfl (fun hc => ?_) (fun hc => ?_)
          · replace hf := ifT hc hf
            refine v_iconst (v := 0) g dk_1_asks_72 (by decide) (pc' := 73) rfl ?_
            exact v_zret g hr hlk hK rfl (Option.some.inj hf) dk_1_asks_73
          · replace hf := ifF hc hf
            refine v_aload_n g dk_1_asks_64 1 rfl rfl (pc' := 65) rfl ?_
            refine v_iload_n g dk_1_asks_65 2 rfl rfl (pc' := 66) rfl ?_
            obtain ⟨q27, hq, hf⟩ := bnd hf
            refine v_callV_i (As := [.int x1]) (rest := []) (r := q27) (S1 := S) g hK hA (c_MX_isUsed hq) (kcM_X_122 g.2.2.2.2 rfl rfl (Nat.le_of_ble_eq_true rfl) (Nat.le_of_ble_eq_true rfl)) (ci := 1) (q0 := 0) rfl rfl rfl rfl rfl (Nat.le_of_ble_eq_true rfl) dk_1_asks_66 (Nat.zero_le _) (Nat.zero_le _) (pc' := 69) rfl ?_
            refine v_if_eq (tgt := 74) (pc' := 72) g dk_1_asks_69 (by decide) rfl (fun hc => ?_) (fun hc => ?_)
            · replace hf := ifT hc hf
              refine v_bipush (v := 6) g dk_1_asks_74 (by decide) (pc' := 76) rfl ?_
              refine v_iload_n g dk_1_asks_76 2 rfl rfl (pc' := 77) rfl ?_
              refine v_imul g dk_1_asks_77 (pc' := 78) rfl ?_
              refine v_istore (lv' := [(6, .int ((6 : Int32) * x1)), (5, .int 0), (0, .ref (ad 0)), (1, .int x1), (2, .int x2), (3, .int x3), (4, .int x4)]) g dk_1_asks_78 (by decide) rfl (pc' := 80) rfl ?_
              refine v_iload g dk_1_asks_80 0 rfl (pc' := 82) rfl ?_
              refine v_aload_n g dk_1_asks_82 2 rfl rfl (pc' := 83) rfl ?_
              refine gfM_X_28 g hK dk_1_asks_83 (pc' := 86) rfl ?_
              refine v_iload_n g dk_1_asks_86 3 rfl rfl (pc' := 87) rfl ?_
              refine alM_7 g hK hb26 dk_1_asks_87 (pc' := 88) rfl ?_
              refine v_iadd g dk_1_asks_88 (pc' := 89) rfl ?_
              refine v_istore (lv' := [(7, .int (((6 : Int32) * x1) + (gA S 6 x1.toNatClampNeg))), (6, .int ((6 : Int32) * x1)), (5, .int 0), (0, .ref (ad 0)), (1, .int x1), (2, .int x2), (3, .int x3), (4, .int x4)]) g dk_1_asks_89 (by decide) rfl (pc' := 91) rfl ?_
              refine v_iload g dk_1_asks_91 1 rfl (pc' := 93) rfl ?_
              refine v_istore (lv' := [(8, .int ((6 : Int32) * x1)), (7, .int (((6 : Int32) * x1) + (gA S 6 x1.toNatClampNeg))), (6, .int ((6 : Int32) * x1)), (5, .int 0), (0, .ref (ad 0)), (1, .int x1), (2, .int x2), (3, .int x3), (4, .int x4)]) g dk_1_asks_93 (by decide) rfl (pc' := 95) rfl ?_
              refine v_sub [4, 5, 6, 7, 8, 1, 0] rfl ?_
              obtain ⟨o28, hL, hf⟩ := bnd hf
              refine w_MX_asks_95 g hr hlk hK hA 100 ((6 : Int32) * x1) _ hL (fun y29 hy => ?_) (fun r9 hy => ?_)
              · subst hy
                replace hf := exKl hf
                refine v_aload_n g dk_1_asks_144 0 rfl rfl (pc' := 145) rfl ?_
                refine gfM_X_37 g hK dk_1_asks_145 (pc' := 148) rfl ?_
                refine v_iload g dk_1_asks_148 5 rfl (pc' := 150) rfl ?_
                refine v_iload_n g dk_1_asks_150 2 rfl rfl (pc' := 151) rfl ?_
                obtain ⟨hb30, hf⟩ := grd hf
                refine asM_10 g hK hb30 dk_1_asks_151 (pc' := 152) rfl ?_
                refine v_aload_n g dk_1_asks_152 0 rfl rfl (pc' := 153) rfl ?_
                refine gfM_X_31 g hK dk_1_asks_153 (pc' := 156) rfl ?_
                refine v_iload g dk_1_asks_156 5 rfl (pc' := 158) rfl ?_
                refine v_iload_n g dk_1_asks_158 3 rfl rfl (pc' := 159) rfl ?_
                refine asM_8 g hK hb30 dk_1_asks_159 (pc' := 160) rfl ?_
                refine v_aload_n g dk_1_asks_160 0 rfl rfl (pc' := 161) rfl ?_
                refine gfM_X_34 g hK dk_1_asks_161 (pc' := 164) rfl ?_
                refine v_iload g dk_1_asks_164 5 rfl (pc' := 166) rfl ?_
                refine v_iload g dk_1_asks_166 4 rfl (pc' := 168) rfl ?_
                refine asM_9 g hK hb30 dk_1_asks_168 (pc' := 169) rfl ?_
                refine v_aload_n g dk_1_asks_169 0 rfl rfl (pc' := 170) rfl ?_
                refine gfM_X_28 g hK dk_1_asks_170 (pc' := 173) rfl ?_
                refine v_iload_n g dk_1_asks_173 1 rfl rfl (pc' := 174) rfl ?_
                refine v_dup2 g dk_1_asks_174 rfl rfl (pc' := 175) rfl ?_
                refine alM_7 g hK hb26 dk_1_asks_175 (pc' := 176) rfl ?_
                refine v_iconst (v := 1) g dk_1_asks_176 (by decide) (pc' := 177) rfl ?_
                refine v_iadd g dk_1_asks_177 (pc' := 178) rfl ?_
                refine asM_7 g hK hb26 dk_1_asks_178 (pc' := 179) rfl ?_
                refine v_iconst (v := 1) g dk_1_asks_179 (by decide) (pc' := 180) rfl ?_
                exact v_zret g hr hlk hK rfl (Option.some.inj hf) dk_1_asks_180
              · subst hy
                exact Option.some.inj hf
            · replace hf := ifF hc hf
              refine v_iconst (v := 0) g dk_1_asks_72 (by decide) (pc' := 73) rfl ?_
              exact v_zret g hr hlk hK rfl (Option.some.inj hf) dk_1_asks_73
      · replace hf := ifF hc hf
        refine v_iload g dk_1_asks_31 4 rfl (pc' := 33) rfl ?_
        refine v_bipush (v := 8) g dk_1_asks_33 (by decide) (pc' := 35) rfl ?_
        obtain ⟨q31, hq, hf⟩ := bnd hf
        refine v_callS_i (As := [.int x4, .int 8]) (rest := []) (r := q31) (S1 := S) g hK hA (c_MX_in hq) (kcM_X_102 g.2.2.2.2 rfl rfl (Nat.le_of_ble_eq_true rfl) (Nat.le_of_ble_eq_true rfl)) rfl rfl (Nat.le_of_ble_eq_true rfl) dk_1_asks_35 (Nat.zero_le _) (Nat.zero_le _) (pc' := 38) rfl ?_
        refine v_if_eq (tgt := 45) (pc' := 41) g dk_1_asks_38 (by decide) rfl (fun hc => ?_) (fun hc => ?_)
        · replace hf := ifT hc hf
          refine v_iconst (v := 0) g dk_1_asks_45 (by decide) (pc' := 46) rfl ?_
          refine v_istore (lv' := [(5, .int 0), (0, .ref (ad 0)), (1, .int x1), (2, .int x2), (3, .int x3), (4, .int x4)]) g dk_1_asks_46 (by decide) rfl (pc' := 48) rfl ?_
          refine v_iload g dk_1_asks_48 0 rfl (pc' := 50) rfl ?_
          refine v_if_eq (tgt := 72) (pc' := 53) g dk_1_asks_50 (by decide) rfl (fun hc => ?_) (fun hc => ?_)
          · replace hf := ifT hc hf
            refine v_iconst (v := 0) g dk_1_asks_72 (by decide) (pc' := 73) rfl ?_
            exact v_zret g hr hlk hK rfl (Option.some.inj hf) dk_1_asks_73
          · replace hf := ifF hc hf
            refine v_aload_n g dk_1_asks_53 1 rfl rfl (pc' := 54) rfl ?_
            refine gfM_X_28 g hK dk_1_asks_54 (pc' := 57) rfl ?_
            refine v_iload_n g dk_1_asks_57 2 rfl rfl (pc' := 58) rfl ?_
            obtain ⟨hb32, hf⟩ := grd hf
            refine alM_7 g hK hb32 dk_1_asks_58 (pc' := 59) rfl ?_
            refine v_bipush (v := 6) g dk_1_asks_59 (by decide) (pc' := 61) rfl ?_
            refine v_icmp_eq (tgt := 72) (pc' := 64) g dk_1_asks_61 (by decide) rfl (fun hc => ?_) (fun hc => ?_)
            · replace hf := ifT hc hf
              refine v_iconst (v := 0) g dk_1_asks_72 (by decide) (pc' := 73) rfl ?_
              exact v_zret g hr hlk hK rfl (Option.some.inj hf) dk_1_asks_73
            · replace hf := ifF hc hf
              refine v_aload_n g dk_1_asks_64 1 rfl rfl (pc' := 65) rfl ?_
              refine v_iload_n g dk_1_asks_65 2 rfl rfl (pc' := 66) rfl ?_
              obtain ⟨q33, hq, hf⟩ := bnd hf
              refine v_callV_i (As := [.int x1]) (rest := []) (r := q33) (S1 := S) g hK hA (c_MX_isUsed hq) (kcM_X_122 g.2.2.2.2 rfl rfl (Nat.le_of_ble_eq_true rfl) (Nat.le_of_ble_eq_true rfl)) (ci := 1) (q0 := 0) rfl rfl rfl rfl rfl (Nat.le_of_ble_eq_true rfl) dk_1_asks_66 (Nat.zero_le _) (Nat.zero_le _) (pc' := 69) rfl ?_
              refine v_if_eq (tgt := 74) (pc' := 72) g dk_1_asks_69 (by decide) rfl (fun hc => ?_) (fun hc => ?_)
              · replace hf := ifT hc hf
                refine v_bipush (v := 6) g dk_1_asks_74 (by decide) (pc' := 76) rfl ?_
                refine v_iload_n g dk_1_asks_76 2 rfl rfl (pc' := 77) rfl ?_
                refine v_imul g dk_1_asks_77 (pc' := 78) rfl ?_
                refine v_istore (lv' := [(6, .int ((6 : Int32) * x1)), (5, .int 0), (0, .ref (ad 0)), (1, .int x1), (2, .int x2), (3, .int x3), (4, .int x4)]) g dk_1_asks_78 (by decide) rfl (pc' := 80) rfl ?_
                refine v_iload g dk_1_asks_80 0 rfl (pc' := 82) rfl ?_
                refine v_aload_n g dk_1_asks_82 2 rfl rfl (pc' := 83) rfl ?_
                refine gfM_X_28 g hK dk_1_asks_83 (pc' := 86) rfl ?_
                refine v_iload_n g dk_1_asks_86 3 rfl rfl (pc' := 87) rfl ?_
                refine alM_7 g hK hb32 dk_1_asks_87 (pc' := 88) rfl ?_
                refine v_iadd g dk_1_asks_88 (pc' := 89) rfl ?_
                refine v_istore (lv' := [(7, .int (((6 : Int32) * x1) + (gA S 6 x1.toNatClampNeg))), (6, .int ((6 : Int32) * x1)), (5, .int 0), (0, .ref (ad 0)), (1, .int x1), (2, .int x2), (3, .int x3), (4, .int x4)]) g dk_1_asks_89 (by decide) rfl (pc' := 91) rfl ?_
                refine v_iload g dk_1_asks_91 1 rfl (pc' := 93) rfl ?_
                refine v_istore (lv' := [(8, .int ((6 : Int32) * x1)), (7, .int (((6 : Int32) * x1) + (gA S 6 x1.toNatClampNeg))), (6, .int ((6 : Int32) * x1)), (5, .int 0), (0, .ref (ad 0)), (1, .int x1), (2, .int x2), (3, .int x3), (4, .int x4)]) g dk_1_asks_93 (by decide) rfl (pc' := 95) rfl ?_
                refine v_sub [4, 5, 6, 7, 8, 1, 0] rfl ?_
                obtain ⟨o34, hL, hf⟩ := bnd hf
                refine w_MX_asks_95 g hr hlk hK hA 100 ((6 : Int32) * x1) _ hL (fun y35 hy => ?_) (fun r9 hy => ?_)
                · subst hy
                  replace hf := exKl hf
                  refine v_aload_n g dk_1_asks_144 0 rfl rfl (pc' := 145) rfl ?_
                  refine gfM_X_37 g hK dk_1_asks_145 (pc' := 148) rfl ?_
                  refine v_iload g dk_1_asks_148 5 rfl (pc' := 150) rfl ?_
                  refine v_iload_n g dk_1_asks_150 2 rfl rfl (pc' := 151) rfl ?_
                  obtain ⟨hb36, hf⟩ := grd hf
                  refine asM_10 g hK hb36 dk_1_asks_151 (pc' := 152) rfl ?_
                  refine v_aload_n g dk_1_asks_152 0 rfl rfl (pc' := 153) rfl ?_
                  refine gfM_X_31 g hK dk_1_asks_153 (pc' := 156) rfl ?_
                  refine v_iload g dk_1_asks_156 5 rfl (pc' := 158) rfl ?_
                  refine v_iload_n g dk_1_asks_158 3 rfl rfl (pc' := 159) rfl ?_
                  refine asM_8 g hK hb36 dk_1_asks_159 (pc' := 160) rfl ?_
                  refine v_aload_n g dk_1_asks_160 0 rfl rfl (pc' := 161) rfl ?_
                  refine gfM_X_34 g hK dk_1_asks_161 (pc' := 164) rfl ?_
                  refine v_iload g dk_1_asks_164 5 rfl (pc' := 166) rfl ?_
                  refine v_iload g dk_1_asks_166 4 rfl (pc' := 168) rfl ?_
                  refine asM_9 g hK hb36 dk_1_asks_168 (pc' := 169) rfl ?_
                  refine v_aload_n g dk_1_asks_169 0 rfl rfl (pc' := 170) rfl ?_
                  refine gfM_X_28 g hK dk_1_asks_170 (pc' := 173) rfl ?_
                  refine v_iload_n g dk_1_asks_173 1 rfl rfl (pc' := 174) rfl ?_
                  refine v_dup2 g dk_1_asks_174 rfl rfl (pc' := 175) rfl ?_
                  refine alM_7 g hK hb32 dk_1_asks_175 (pc' := 176) rfl ?_
                  refine v_iconst (v := 1) g dk_1_asks_176 (by decide) (pc' := 177) rfl ?_
                  refine v_iadd g dk_1_asks_177 (pc' := 178) rfl ?_
                  refine asM_7 g hK hb32 dk_1_asks_178 (pc' := 179) rfl ?_
                  refine v_iconst (v := 1) g dk_1_asks_179 (by decide) (pc' := 180) rfl ?_
                  exact v_zret g hr hlk hK rfl (Option.some.inj hf) dk_1_asks_180
                · subst hy
                  exact Option.some.inj hf
              · replace hf := ifF hc hf
                refine v_iconst (v := 0) g dk_1_asks_72 (by decide) (pc' := 73) rfl ?_
                exact v_zret g hr hlk hK rfl (Option.some.inj hf) dk_1_asks_73
        · replace hf := ifF hc hf
          refine v_iconst (v := 1) g dk_1_asks_41 (by decide) (pc' := 42) rfl ?_
          refine v_goto (tgt := 46) g dk_1_asks_42 (by decide) ?_
          refine v_istore (lv' := [(5, .int 1), (0, .ref (ad 0)), (1, .int x1), (2, .int x2), (3, .int x3), (4, .int x4)]) g dk_1_asks_46 (by decide) rfl (pc' := 48) rfl ?_
          refine v_iload g dk_1_asks_48 0 rfl (pc' := 50) rfl ?_
          refine v_if_eq (tgt := 72) (pc' := 53) g dk_1_asks_50 (by decide) rfl (fun hc => ?_) (fun hc => ?_)
          · replace hf := ifT hc hf
            refine v_iconst (v := 0) g dk_1_asks_72 (by decide) (pc' := 73) rfl ?_
            exact v_zret g hr hlk hK rfl (Option.some.inj hf) dk_1_asks_73
          · replace hf := ifF hc hf
            refine v_aload_n g dk_1_asks_53 1 rfl rfl (pc' := 54) rfl ?_
            refine gfM_X_28 g hK dk_1_asks_54 (pc' := 57) rfl ?_
            refine v_iload_n g dk_1_asks_57 2 rfl rfl (pc' := 58) rfl ?_
            obtain ⟨hb37, hf⟩ := grd hf
            refine alM_7 g hK hb37 dk_1_asks_58 (pc' := 59) rfl ?_
            refine v_bipush (v := 6) g dk_1_asks_59 (by decide) (pc' := 61) rfl ?_
            refine v_icmp_eq (tgt := 72) (pc' := 64) g dk_1_asks_61 (by decide) rfl (fun hc => ?_) (fun hc => ?_)
            · replace hf := ifT hc hf
              refine v_iconst (v := 0) g dk_1_asks_72 (by decide) (pc' := 73) rfl ?_
              exact v_zret g hr hlk hK rfl (Option.some.inj hf) dk_1_asks_73
            · replace hf := ifF hc hf
              refine v_aload_n g dk_1_asks_64 1 rfl rfl (pc' := 65) rfl ?_
              refine v_iload_n g dk_1_asks_65 2 rfl rfl (pc' := 66) rfl ?_
              obtain ⟨q38, hq, hf⟩ := bnd hf
              refine v_callV_i (As := [.int x1]) (rest := []) (r := q38) (S1 := S) g hK hA (c_MX_isUsed hq) (kcM_X_122 g.2.2.2.2 rfl rfl (Nat.le_of_ble_eq_true rfl) (Nat.le_of_ble_eq_true rfl)) (ci := 1) (q0 := 0) rfl rfl rfl rfl rfl (Nat.le_of_ble_eq_true rfl) dk_1_asks_66 (Nat.zero_le _) (Nat.zero_le _) (pc' := 69) rfl ?_
              refine v_if_eq (tgt := 74) (pc' := 72) g dk_1_asks_69 (by decide) rfl (fun hc => ?_) (fun hc => ?_)
              · replace hf := ifT hc hf
                refine v_bipush (v := 6) g dk_1_asks_74 (by decide) (pc' := 76) rfl ?_
                refine v_iload_n g dk_1_asks_76 2 rfl rfl (pc' := 77) rfl ?_
                refine v_imul g dk_1_asks_77 (pc' := 78) rfl ?_
                refine v_istore (lv' := [(6, .int ((6 : Int32) * x1)), (5, .int 1), (0, .ref (ad 0)), (1, .int x1), (2, .int x2), (3, .int x3), (4, .int x4)]) g dk_1_asks_78 (by decide) rfl (pc' := 80) rfl ?_
                refine v_iload g dk_1_asks_80 0 rfl (pc' := 82) rfl ?_
                refine v_aload_n g dk_1_asks_82 2 rfl rfl (pc' := 83) rfl ?_
                refine gfM_X_28 g hK dk_1_asks_83 (pc' := 86) rfl ?_
                refine v_iload_n g dk_1_asks_86 3 rfl rfl (pc' := 87) rfl ?_
                refine alM_7 g hK hb37 dk_1_asks_87 (pc' := 88) rfl ?_
                refine v_iadd g dk_1_asks_88 (pc' := 89) rfl ?_
                refine v_istore (lv' := [(7, .int (((6 : Int32) * x1) + (gA S 6 x1.toNatClampNeg))), (6, .int ((6 : Int32) * x1)), (5, .int 1), (0, .ref (ad 0)), (1, .int x1), (2, .int x2), (3, .int x3), (4, .int x4)]) g dk_1_asks_89 (by decide) rfl (pc' := 91) rfl ?_
                refine v_iload g dk_1_asks_91 1 rfl (pc' := 93) rfl ?_
                refine v_istore (lv' := [(8, .int ((6 : Int32) * x1)), (7, .int (((6 : Int32) * x1) + (gA S 6 x1.toNatClampNeg))), (6, .int ((6 : Int32) * x1)), (5, .int 1), (0, .ref (ad 0)), (1, .int x1), (2, .int x2), (3, .int x3), (4, .int x4)]) g dk_1_asks_93 (by decide) rfl (pc' := 95) rfl ?_
                refine v_sub [4, 5, 6, 7, 8, 1, 0] rfl ?_
                obtain ⟨o39, hL, hf⟩ := bnd hf
                refine w_MX_asks_95 g hr hlk hK hA 100 ((6 : Int32) * x1) _ hL (fun y40 hy => ?_) (fun r9 hy => ?_)
                · subst hy
                  replace hf := exKl hf
                  refine v_aload_n g dk_1_asks_144 0 rfl rfl (pc' := 145) rfl ?_
                  refine gfM_X_37 g hK dk_1_asks_145 (pc' := 148) rfl ?_
                  refine v_iload g dk_1_asks_148 5 rfl (pc' := 150) rfl ?_
                  refine v_iload_n g dk_1_asks_150 2 rfl rfl (pc' := 151) rfl ?_
                  obtain ⟨hb41, hf⟩ := grd hf
                  refine asM_10 g hK hb41 dk_1_asks_151 (pc' := 152) rfl ?_
                  refine v_aload_n g dk_1_asks_152 0 rfl rfl (pc' := 153) rfl ?_
                  refine gfM_X_31 g hK dk_1_asks_153 (pc' := 156) rfl ?_
                  refine v_iload g dk_1_asks_156 5 rfl (pc' := 158) rfl ?_
                  refine v_iload_n g dk_1_asks_158 3 rfl rfl (pc' := 159) rfl ?_
                  refine asM_8 g hK hb41 dk_1_asks_159 (pc' := 160) rfl ?_
                  refine v_aload_n g dk_1_asks_160 0 rfl rfl (pc' := 161) rfl ?_
                  refine gfM_X_34 g hK dk_1_asks_161 (pc' := 164) rfl ?_
                  refine v_iload g dk_1_asks_164 5 rfl (pc' := 166) rfl ?_
                  refine v_iload g dk_1_asks_166 4 rfl (pc' := 168) rfl ?_
                  refine asM_9 g hK hb41 dk_1_asks_168 (pc' := 169) rfl ?_
                  refine v_aload_n g dk_1_asks_169 0 rfl rfl (pc' := 170) rfl ?_
                  refine gfM_X_28 g hK dk_1_asks_170 (pc' := 173) rfl ?_
                  refine v_iload_n g dk_1_asks_173 1 rfl rfl (pc' := 174) rfl ?_
                  refine v_dup2 g dk_1_asks_174 rfl rfl (pc' := 175) rfl ?_
                  refine alM_7 g hK hb37 dk_1_asks_175 (pc' := 176) rfl ?_
                  refine v_iconst (v := 1) g dk_1_asks_176 (by decide) (pc' := 177) rfl ?_
                  refine v_iadd g dk_1_asks_177 (pc' := 178) rfl ?_
                  refine asM_7 g hK hb37 dk_1_asks_178 (pc' := 179) rfl ?_
                  refine v_iconst (v := 1) g dk_1_asks_179 (by decide) (pc' := 180) rfl ?_
                  exact v_zret g hr hlk hK rfl (Option.some.inj hf) dk_1_asks_180
                · subst hy
                  exact Option.some.inj hf
              · replace hf := ifF hc hf
                refine v_iconst (v := 0) g dk_1_asks_72 (by decide) (pc' := 73) rfl ?_
                exact v_zret g hr hlk hK rfl (Option.some.inj hf) dk_1_asks_73
