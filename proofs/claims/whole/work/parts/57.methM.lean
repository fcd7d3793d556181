abbrev rm_MX_turn : Room := { frames := 2, cells := 0, slots := 0, locals := 44 }
def m_MX_turn (S : StM) (x1 : Int32) (x2 : Int32) (x3 : Int32) : Option StM :=
  if inb x1 40 = true then if (gA S 21 x1.toNatClampNeg) ≤ x2 then if ((-1) : Int32) = (-1) then some S
    else (m_MX_give S (-1) x3).bind fun q2 =>
    some q2
    else if inb (((2 : Int32) * x1) + x2) 80 = true then (m_MX_baseOf S (gA S 22 (((2 : Int32) * x1) + x2).toNatClampNeg)).bind fun q4 =>
    if q4 = (-1) then some S
    else (m_MX_give S q4 x3).bind fun q5 =>
    some q5 else none else none
set_option maxHeartbeats 4000000 in
set_option maxRecDepth 100000 in
theorem c_MX_turn {l : Launch} {D : va_G} {ad : Nat → Nat} {ca : Nat → ClassId} {S : StM} {x1 : Int32} {x2 : Int32} {x3 : Int32} {r : StM} (hf : m_MX_turn S x1 x2 x3 = some r) : KVM l D ad ca yk_1_turn (.code yk_1_turn bk_1_turn 5 none :: tb) rm_MX_turn [.ref (ad 0), .int x1, .int x2, .int x3] S r := by
  refine met_v (by decide) (Nat.le_of_ble_eq_true rfl) (fun p e s m below meth c A g hr hlk hK hA => ?_)
  replace g : CallFix p m c bk_1_turn 5 s _ tb Rk_1 := g
  refine v_lv (lv' := [(0, .ref (ad 0)), (1, .int x1), (2, .int x2), (3, .int x3)]) rfl ?_
  unfold m_MX_turn at hf
  refine v_iload_n g dk_1_turn_0 2 rfl rfl (pc' := 1) rfl ?_
  refine v_aload_n g dk_1_turn_1 0 rfl rfl (pc' := 2) rfl ?_
  refine gfM_X_74 g hK dk_1_turn_2 (pc' := 5) rfl ?_
  refine v_iload_n g dk_1_turn_5 1 rfl rfl (pc' := 6) rfl ?_
  obtain ⟨hb1, hf⟩ := grd hf
  refine alM_22 g hK hb1 dk_1_turn_6 (pc' := 7) rfl ?_
  refine v_icmp_ge (tgt := 27) (pc' := 10) g dk_1_turn_7 (by decide) rfl (fun hc => ?_) (fun hc => ?_)
  · replace hf := ifT hc hf
    refine v_iconst (v := (-1)) g dk_1_turn_27 (by decide) (pc' := 28) rfl ?_
    refine v_istore (lv' := [(4, .int (-1)), (0, .ref (ad 0)), (1, .int x1), (2, .int x2), (3, .int x3)]) g dk_1_turn_28 (by decide) rfl (pc' := 30) rfl ?_
    refine v_iload g dk_1_turn_30 0 rfl (pc' := 32) rfl ?_
    refine v_iconst (v := (-1)) g dk_1_turn_32 (by decide) (pc' := 33) rfl ?_
    refine v_icmp_eq (tgt := 43) (pc' := 36) g dk_1_turn_33 (by decide) rfl (fun hc => ?_) (fun hc => ?_)
    · replace hf := ifT hc hf
      exact v_vret g hr hlk hK  (Option.some.inj hf) dk_1_turn_43
    · replace hf := ifF hc hf
      refine v_aload_n g dk_1_turn_36 1 rfl rfl (pc' := 37) rfl ?_
      refine v_iload g dk_1_turn_37 0 rfl (pc' := 39) rfl ?_
      refine v_iload_n g dk_1_turn_39 4 rfl rfl (pc' := 40) rfl ?_
      obtain ⟨q2, hq, hf⟩ := bnd hf
      refine v_callV_v (As := [.int (-1), .int x3]) (rest := []) (S1 := q2) g hK hA (c_MX_give hq) (kcM_X_154 g.2.2.2.2 rfl rfl (Nat.le_of_ble_eq_true rfl) (Nat.le_of_ble_eq_true rfl)) (ci := 1) (q0 := 0) rfl rfl rfl rfl rfl (Nat.le_of_ble_eq_true rfl) dk_1_turn_40 (Nat.zero_le _) (Nat.zero_le _) (pc' := 43) rfl ?_
      exact v_vret g hr hlk hK  (Option.some.inj hf) dk_1_turn_43
  · replace hf := ifF hc hf
    refine v_aload_n g dk_1_turn_10 0 rfl rfl (pc' := 11) rfl ?_
    refine v_aload_n g dk_1_turn_11 0 rfl rfl (pc' := 12) rfl ?_
    refine gfM_X_77 g hK dk_1_turn_12 (pc' := 15) rfl ?_
    refine v_iconst (v := 2) g dk_1_turn_15 (by decide) (pc' := 16) rfl ?_
    refine v_iload_n g dk_1_turn_16 1 rfl rfl (pc' := 17) rfl ?_
    refine v_imul g dk_1_turn_17 (pc' := 18) rfl ?_
    refine v_iload_n g dk_1_turn_18 2 rfl rfl (pc' := 19) rfl ?_
    refine v_iadd g dk_1_turn_19 (pc' := 20) rfl ?_
    obtain ⟨hb3, hf⟩ := grd hf
    refine alM_23 g hK hb3 dk_1_turn_20 (pc' := 21) rfl ?_
    obtain ⟨q4, hq, hf⟩ := bnd hf
    refine v_callV_i (As := [.int (gA S 22 (((2 : Int32) * x1) + x2).toNatClampNeg)]) (rest := []) (r := q4) (S1 := S) g hK hA (c_MX_baseOf hq) (kcM_X_106 g.2.2.2.2 rfl rfl (Nat.le_of_ble_eq_true rfl) (Nat.le_of_ble_eq_true rfl)) (ci := 1) (q0 := 0) rfl rfl rfl rfl rfl (Nat.le_of_ble_eq_true rfl) dk_1_turn_21 (Nat.zero_le _) (Nat.zero_le _) (pc' := 24) rfl ?_
    refine v_goto (tgt := 28) g dk_1_turn_24 (by decide) ?_
    refine v_istore (lv' := [(4, .int q4), (0, .ref (ad 0)), (1, .int x1), (2, .int x2), (3, .int x3)]) g dk_1_turn_28 (by decide) rfl (pc' := 30) rfl ?_
    refine v_iload g dk_1_turn_30 0 rfl (pc' := 32) rfl ?_
    refine v_iconst (v := (-1)) g dk_1_turn_32 (by decide) (pc' := 33) rfl ?_
    refine v_icmp_eq (tgt := 43) (pc' := 36) g dk_1_turn_33 (by decide) rfl (fun hc => ?_) (fun hc => ?_)
    · replace hf := ifT hc hf
      exact v_vret g hr hlk hK  (Option.some.inj hf) dk_1_turn_43
    · replace hf := ifF hc hf
      refine v_aload_n g dk_1_turn_36 1 rfl rfl (pc' := 37) rfl ?_
      refine v_iload g dk_1_turn_37 0 rfl (pc' := 39) rfl ?_
      refine v_iload_n g dk_1_turn_39 4 rfl rfl (pc' := 40) rfl ?_
      obtain ⟨q5, hq, hf⟩ := bnd hf
      refine v_callV_v (As := [.int q4, .int x3]) (rest := []) (S1 := q5) g hK hA (c_MX_give hq) (kcM_X_154 g.2.2.2.2 rfl rfl (Nat.le_of_ble_eq_true rfl) (Nat.le_of_ble_eq_true rfl)) (ci := 1) (q0 := 0) rfl rfl rfl rfl rfl (Nat.le_of_ble_eq_true rfl) dk_1_turn_40 (Nat.zero_le _) (Nat.zero_le _) (pc' := 43) rfl ?_
      exact v_vret g hr hlk hK  (Option.some.inj hf) dk_1_turn_43
abbrev rm_MX_follow : Room := { frames := 7, cells := 0, slots := 0, locals := 162 }
def L_MX_follow_11 (x1 : Int32) (x2 : Int32) (x3 : Int32) : Nat → StM → Int32 → Option (StM ⊕ (Int32 × StM))
  | 0, _, _ => none
  | n + 1, S, x4 =>
    if 8 ≤ x4 then some (.inl S)
    else (m_MX_isTurn S x2 0 x3).bind fun q1 =>
    if q1 = 0 then L_MX_follow_11 x1 x2 x3 n S (x4 + 1)
    else (m_MX_isTurn S x2 1 x4).bind fun q2 =>
    if q2 = 0 then L_MX_follow_11 x1 x2 x3 n S (x4 + 1)
    else if inb x1 61 = true then (m_MX_copy S (gA S 25 x1.toNatClampNeg) 60).bind fun q4 =>
    (m_MX_turn q4 x2 0 x3).bind fun q5 =>
    (m_MX_turn q5 x2 1 x4).bind fun q6 =>
    if inb x2 40 = true then (m_MX_pairOf q6 (gA q6 20 x2.toNatClampNeg)).bind fun q8 =>
    if q8.1 = (-1) then some (.inr (0, q8.2))
    else if inb (((60 : Int32) * x1) + q8.1) 3721 = true then L_MX_follow_11 x1 x2 x3 n (tA q8.2 27 (((60 : Int32) * x1) + q8.1) (vp_nar .boolean 1)) (x4 + 1) else none else none else none
set_option maxHeartbeats 4000000 in
set_option maxRecDepth 100000 in
theorem w_MX_follow_11 {p : Program} {l : Launch} {e : Env} {s : State} {m : MethodId} {args : Array Value} {below : List Frame} {meth : Method} {c : Code} {A : Nat → Prop} {D : va_G} {ad : Nat → Nat} {ca : Nat → ClassId} {Rm : Int32 × StM} {x1 : Int32} {x2 : Int32} {x3 : Int32} (g : CallFix p m c bk_1_follow 6 s args tb Rk_1) (hr : meth.sig.returnType = some .boolean) (hlk : meth.locks = false) (hK : va_K D vwCl (tyM ca) s) (hA : ∀ q, s.heap.size ≤ q → A q) : ∀ (n : Nat) (S : StM) (x4 : Int32) (o : StM ⊕ (Int32 × StM)), L_MX_follow_11 x1 x2 x3 n S x4 = some o → (∀ y, o = .inl y → Vj p l e rm_MX_follow s m args below meth c (MQ below (qI D vwCl (tyM ca) (wdM ad ca) A Rm) args s 0 0 A) D vwCl A 6 0 0 (wdM ad ca y) 105 [(0, .ref (ad 0)), (1, .int x1), (2, .int x2), (3, .int x3)] []) → (∀ r, o = .inr r → r = Rm) → Vj p l e rm_MX_follow s m args below meth c (MQ below (qI D vwCl (tyM ca) (wdM ad ca) A Rm) args s 0 0 A) D vwCl A 6 0 0 (wdM ad ca S) 11 [(0, .ref (ad 0)), (1, .int x1), (2, .int x2), (3, .int x3), (4, .int x4)] [] := by
  intro n
  induction n with
  | zero => intro S x4 o hf; exact nomatch (show none = some o from hf)
  | succ n ih =>
    intro S x4 o hf hx hret
    rw [L_MX_follow_11] at hf
    refine v_iload g dk_1_follow_11 4 rfl (pc' := 13) rfl ?_
    refine v_bipush (v := 8) g dk_1_follow_13 (by decide) (pc' := 15) rfl ?_
    refine v_icmp_ge (tgt := 105) (pc' := 18) g dk_1_follow_15 (by decide) rfl (fun hc => ?_) (fun hc => ?_)
    · replace hf := ifT hc hf
      refine v_sub [0, 1, 2, 3] rfl ?_
      exact hx _ (Option.some.inj hf).symm
    · replace hf := ifF hc hf
      refine v_aload_n g dk_1_follow_18 0 rfl rfl (pc' := 19) rfl ?_
      refine v_iload_n g dk_1_follow_19 2 rfl rfl (pc' := 20) rfl ?_
      refine v_iconst (v := 0) g dk_1_follow_20 (by decide) (pc' := 21) rfl ?_
      refine v_iload_n g dk_1_follow_21 3 rfl rfl (pc' := 22) rfl ?_
      obtain ⟨q1, hq, hf⟩ := bnd hf
      refine v_callV_i (As := [.int x2, .int 0, .int x3]) (rest := []) (r := q1) (S1 := S) g hK hA (c_MX_isTurn hq) (kcM_X_216 g.2.2.2.2 rfl rfl (Nat.le_of_ble_eq_true rfl) (Nat.le_of_ble_eq_true rfl)) (ci := 1) (q0 := 0) rfl rfl rfl rfl rfl (Nat.le_of_ble_eq_true rfl) dk_1_follow_22 (Nat.zero_le _) (Nat.zero_le _) (pc' := 25) rfl ?_
      refine v_if_eq (tgt := 99) (pc' := 28) g dk_1_follow_25 (by decide) rfl (fun hc => ?_) (fun hc => ?_)
      · replace hf := ifT hc hf
        refine v_iinc (j := 4) (v := x4 + 1) (lv' := [(4, .int (x4 + 1)), (0, .ref (ad 0)), (1, .int x1), (2, .int x2), (3, .int x3)]) g dk_1_follow_99 rfl rfl (by decide) rfl (pc' := 102) rfl ?_
        refine v_goto (tgt := 11) g dk_1_follow_102 (by decide) ?_
        refine v_sub [1, 2, 3, 4, 0] rfl ?_
        exact ih S (x4 + 1) o hf hx hret
      · replace hf := ifF hc hf
        refine v_aload_n g dk_1_follow_28 0 rfl rfl (pc' := 29) rfl ?_
        refine v_iload_n g dk_1_follow_29 2 rfl rfl (pc' := 30) rfl ?_
        refine v_iconst (v := 1) g dk_1_follow_30 (by decide) (pc' := 31) rfl ?_
        refine v_iload g dk_1_follow_31 4 rfl (pc' := 33) rfl ?_
        obtain ⟨q2, hq, hf⟩ := bnd hf
        refine v_callV_i (As := [.int x2, .int 1, .int x4]) (rest := []) (r := q2) (S1 := S) g hK hA (c_MX_isTurn hq) (kcM_X_216 g.2.2.2.2 rfl rfl (Nat.le_of_ble_eq_true rfl) (Nat.le_of_ble_eq_true rfl)) (ci := 1) (q0 := 0) rfl rfl rfl rfl rfl (Nat.le_of_ble_eq_true rfl) dk_1_follow_33 (Nat.zero_le _) (Nat.zero_le _) (pc' := 36) rfl ?_
        refine v_if_eq (tgt := 99) (pc' := 39) g dk_1_follow_36 (by decide) rfl (fun hc => ?_) (fun hc => ?_)
        · replace hf := ifT hc hf
          refine v_iinc (j := 4) (v := x4 + 1) (lv' := [(4, .int (x4 + 1)), (0, .ref (ad 0)), (1, .int x1), (2, .int x2), (3, .int x3)]) g dk_1_follow_99 rfl rfl (by decide) rfl (pc' := 102) rfl ?_
          refine v_goto (tgt := 11) g dk_1_follow_102 (by decide) ?_
          refine v_sub [1, 2, 3, 4, 0] rfl ?_
          exact ih S (x4 + 1) o hf hx hret
        · replace hf := ifF hc hf
          refine v_aload_n g dk_1_follow_39 0 rfl rfl (pc' := 40) rfl ?_
          refine v_aload_n g dk_1_follow_40 0 rfl rfl (pc' := 41) rfl ?_
          refine gfM_X_90 g hK dk_1_follow_41 (pc' := 44) rfl ?_
          refine v_iload_n g dk_1_follow_44 1 rfl rfl (pc' := 45) rfl ?_
          obtain ⟨hb3, hf⟩ := grd hf
          refine alM_26 g hK hb3 dk_1_follow_45 (pc' := 46) rfl ?_
          refine v_bipush (v := 60) g dk_1_follow_46 (by decide) (pc' := 48) rfl ?_
          obtain ⟨q4, hq, hf⟩ := bnd hf
          refine v_callV_v (As := [.int (gA S 25 x1.toNatClampNeg), .int 60]) (rest := []) (S1 := q4) g hK hA (c_MX_copy hq) (kcM_X_150 g.2.2.2.2 rfl rfl (Nat.le_of_ble_eq_true rfl) (Nat.le_of_ble_eq_true rfl)) (ci := 1) (q0 := 0) rfl rfl rfl rfl rfl (Nat.le_of_ble_eq_true rfl) dk_1_follow_48 (Nat.zero_le _) (Nat.zero_le _) (pc' := 51) rfl ?_
          refine v_aload_n g dk_1_follow_51 0 rfl rfl (pc' := 52) rfl ?_
          refine v_iload_n g dk_1_follow_52 2 rfl rfl (pc' := 53) rfl ?_
          refine v_iconst (v := 0) g dk_1_follow_53 (by decide) (pc' := 54) rfl ?_
          refine v_iload_n g dk_1_follow_54 3 rfl rfl (pc' := 55) rfl ?_
          obtain ⟨q5, hq, hf⟩ := bnd hf
          refine v_callV_v (As := [.int x2, .int 0, .int x3]) (rest := []) (S1 := q5) g hK hA (c_MX_turn hq) (kcM_X_220 g.2.2.2.2 rfl rfl (Nat.le_of_ble_eq_true rfl) (Nat.le_of_ble_eq_true rfl)) (ci := 1) (q0 := 0) rfl rfl rfl rfl rfl (Nat.le_of_ble_eq_true rfl) dk_1_follow_55 (Nat.zero_le _) (Nat.zero_le _) (pc' := 58) rfl ?_
          refine v_aload_n g dk_1_follow_58 0 rfl rfl (pc' := 59) rfl ?_
          refine v_iload_n g dk_1_follow_59 2 rfl rfl (pc' := 60) rfl ?_
          refine v_iconst (v := 1) g dk_1_follow_60 (by decide) (pc' := 61) rfl ?_
          refine v_iload g dk_1_follow_61 4 rfl (pc' := 63) rfl ?_
          obtain ⟨q6, hq, hf⟩ := bnd hf
          refine v_callV_v (As := [.int x2, .int 1, .int x4]) (rest := []) (S1 := q6) g hK hA (c_MX_turn hq) (kcM_X_220 g.2.2.2.2 rfl rfl (Nat.le_of_ble_eq_true rfl) (Nat.le_of_ble_eq_true rfl)) (ci := 1) (q0 := 0) rfl rfl rfl rfl rfl (Nat.le_of_ble_eq_true rfl) dk_1_follow_63 (Nat.zero_le _) (Nat.zero_le _) (pc' := 66) rfl ?_
          refine v_aload_n g dk_1_follow_66 0 rfl rfl (pc' := 67) rfl ?_
          refine v_aload_n g dk_1_follow_67 0 rfl rfl (pc' := 68) rfl ?_
          refine gfM_X_71 g hK dk_1_follow_68 (pc' := 71) rfl ?_
          refine v_iload_n g dk_1_follow_71 2 rfl rfl (pc' := 72) rfl ?_
          obtain ⟨hb7, hf⟩ := grd hf
          refine alM_21 g hK hb7 dk_1_follow_72 (pc' := 73) rfl ?_
          obtain ⟨q8, hq, hf⟩ := bnd hf
          refine v_callV_i (As := [.int (gA q6 20 x2.toNatClampNeg)]) (rest := []) (r := q8.1) (S1 := q8.2) g hK hA (c_MX_pairOf hq) (kcM_X_224 g.2.2.2.2 rfl rfl (Nat.le_of_ble_eq_true rfl) (Nat.le_of_ble_eq_true rfl)) (ci := 1) (q0 := 0) rfl rfl rfl rfl rfl (Nat.le_of_ble_eq_true rfl) dk_1_follow_73 (Nat.zero_le _) (Nat.zero_le _) (pc' := 76) rfl ?_
          refine v_istore (lv' := [(5, .int q8.1), (0, .ref (ad 0)), (1, .int x1), (2, .int x2), (3, .int x3), (4, .int x4)]) g dk_1_follow_76 (by decide) rfl (pc' := 78) rfl ?_
          refine v_iload g dk_1_follow_78 0 rfl (pc' := 80) rfl ?_
          refine v_iconst (v := (-1)) g dk_1_follow_80 (by decide) (pc' := 81) rfl ?_
          refine v_icmp_ne (tgt := 86) (pc' := 84) g dk_1_follow_81 (by decide) rfl (fun hc => ?_) (fun hc => ?_)
          · replace hf := ifF hc hf
            refine v_aload_n g dk_1_follow_86 1 rfl rfl (pc' := 87) rfl ?_
            refine gfM_X_96 g hK dk_1_follow_87 (pc' := 90) rfl ?_
            refine v_bipush (v := 60) g dk_1_follow_90 (by decide) (pc' := 92) rfl ?_
            refine v_iload_n g dk_1_follow_92 2 rfl rfl (pc' := 93) rfl ?_
            refine v_imul g dk_1_follow_93 (pc' := 94) rfl ?_
            refine v_iload g dk_1_follow_94 0 rfl (pc' := 96) rfl ?_
            refine v_iadd g dk_1_follow_96 (pc' := 97) rfl ?_
            refine v_iconst (v := 1) g dk_1_follow_97 (by decide) (pc' := 98) rfl ?_
            obtain ⟨hb9, hf⟩ := grd hf
            refine asM_28 g hK hb9 dk_1_follow_98 (pc' := 99) rfl ?_
            refine v_iinc (j := 5) (v := x4 + 1) (lv' := [(4, .int (x4 + 1)), (5, .int q8.1), (0, .ref (ad 0)), (1, .int x1), (2, .int x2), (3, .int x3)]) g dk_1_follow_99 rfl rfl (by decide) rfl (pc' := 102) rfl ?_
            refine v_goto (tgt := 11) g dk_1_follow_102 (by decide) ?_
            refine v_sub [2, 3, 4, 5, 0] rfl ?_
            exact ih (tA q8.2 27 (((60 : Int32) * x1) + q8.1) (vp_nar .boolean 1)) (x4 + 1) o hf hx hret
          · replace hf := ifT hc hf
            refine v_iconst (v := 0) g dk_1_follow_84 (by decide) (pc' := 85) rfl ?_
            exact v_zret g hr hlk hK rfl (hret _ (Option.some.inj hf).symm) dk_1_follow_85
def L_MX_follow_2 (x1 : Int32) (x2 : Int32) : Nat → StM → Int32 → Option (StM ⊕ (Int32 × StM))
  | 0, _, _ => none
  | n + 1, S, x3 =>
    if 8 ≤ x3 then some (.inl S)
    else (L_MX_follow_11 x1 x2 x3 100 S 0).bind fun o10 => exL o10 fun y11 =>
    L_MX_follow_2 x1 x2 n y11 (x3 + 1)
set_option maxHeartbeats 4000000 in
set_option maxRecDepth 100000 in
theorem w_MX_follow_2 {p : Program} {l : Launch} {e : Env} {s : State} {m : MethodId} {args : Array Value} {below : List Frame} {meth : Method} {c : Code} {A : Nat → Prop} {D : va_G} {ad : Nat → Nat} {ca : Nat → ClassId} {Rm : Int32 × StM} {x1 : Int32} {x2 : Int32} (g : CallFix p m c bk_1_follow 6 s args tb Rk_1) (hr : meth.sig.returnType = some .boolean) (hlk : meth.locks = false) (hK : va_K D vwCl (tyM ca) s) (hA : ∀ q, s.heap.size ≤ q → A q) : ∀ (n : Nat) (S : StM) (x3 : Int32) (o : StM ⊕ (Int32 × StM)), L_MX_follow_2 x1 x2 n S x3 = some o → (∀ y, o = .inl y → Vj p l e rm_MX_follow s m args below meth c (MQ below (qI D vwCl (tyM ca) (wdM ad ca) A Rm) args s 0 0 A) D vwCl A 6 0 0 (wdM ad ca y) 111 [] []) → (∀ r, o = .inr r → r = Rm) → Vj p l e rm_MX_follow s m args below meth c (MQ below (qI D vwCl (tyM ca) (wdM ad ca) A Rm) args s 0 0 A) D vwCl A 6 0 0 (wdM ad ca S) 2 [(0, .ref (ad 0)), (1, .int x1), (2, .int x2), (3, .int x3)] [] := by
  intro n
  induction n with
  | zero => intro S x3 o hf; exact nomatch (show none = some o from hf)
  | succ n ih =>
    intro S x3 o hf hx hret
    rw [L_MX_follow_2] at hf
    refine v_iload_n g dk_1_follow_2 3 rfl rfl (pc' := 3) rfl ?_
    refine v_bipush (v := 8) g dk_1_follow_3 (by decide) (pc' := 5) rfl ?_
    refine v_icmp_ge (tgt := 111) (pc' := 8) g dk_1_follow_5 (by decide) rfl (fun hc => ?_) (fun hc => ?_)
    · replace hf := ifT hc hf
      refine v_sub [] rfl ?_
      exact hx _ (Option.some.inj hf).symm
    · replace hf := ifF hc hf
      refine v_iconst (v := 0) g dk_1_follow_8 (by decide) (pc' := 9) rfl ?_
      refine v_istore (lv' := [(4, .int 0), (0, .ref (ad 0)), (1, .int x1), (2, .int x2), (3, .int x3)]) g dk_1_follow_9 (by decide) rfl (pc' := 11) rfl ?_
      refine v_sub [1, 2, 3, 4, 0] rfl ?_
      obtain ⟨o10, hL, hf⟩ := bnd hf
      refine w_MX_follow_11 g hr hlk hK hA 100 S 0 _ hL (fun y11 hy => ?_) (fun r9 hy => ?_)
      · subst hy
        replace hf := exLl hf
        refine v_iinc (j := 3) (v := x3 + 1) (lv' := [(3, .int (x3 + 1)), (0, .ref (ad 0)), (1, .int x1), (2, .int x2)]) g dk_1_follow_105 rfl rfl (by decide) rfl (pc' := 108) rfl ?_
        refine v_goto (tgt := 2) g dk_1_follow_108 (by decide) ?_
        refine v_sub [1, 2, 3, 0] rfl ?_
        exact ih y11 (x3 + 1) o hf hx hret
      · subst hy
        exact hret _ (Option.some.inj hf).symm
def m_MX_follow (S : StM) (x1 : Int32) (x2 : Int32) : Option (Int32 × StM) :=
  (L_MX_follow_2 x1 x2 100 S 0).bind fun o12 => exK o12 fun y13 =>
    some (1, y13)
set_option maxHeartbeats 4000000 in
set_option maxRecDepth 100000 in
theorem c_MX_follow {l : Launch} {D : va_G} {ad : Nat → Nat} {ca : Nat → ClassId} {S : StM} {x1 : Int32} {x2 : Int32} {r : Int32 × StM} (hf : m_MX_follow S x1 x2 = some r) : KIM l D ad ca yk_1_follow (.code yk_1_follow bk_1_follow 6 (some .boolean) :: tb) rm_MX_follow [.ref (ad 0), .int x1, .int x2] S r := by
  refine met_z (by decide) (Nat.le_of_ble_eq_true rfl) (fun p e s m below meth c A g hr hlk hK hA => ?_)
  replace g : CallFix p m c bk_1_follow 6 s _ tb Rk_1 := g
  refine v_lv (lv' := [(0, .ref (ad 0)), (1, .int x1), (2, .int x2)]) rfl ?_
  unfold m_MX_follow at hf
  refine v_iconst (v := 0) g dk_1_follow_0 (by decide) (pc' := 1) rfl ?_
  refine v_istore_n (lv' := [(3, .int 0), (0, .ref (ad 0)), (1, .int x1), (2, .int x2)]) g dk_1_follow_1 rfl (by decide) rfl (pc' := 2) rfl ?_
  refine v_sub [1, 2, 3, 0] rfl ?_
  obtain ⟨o12, hL, hf⟩ := bnd hf
  refine w_MX_follow_2 g hr hlk hK hA 100 S 0 _ hL (fun y13 hy => ?_) (fun r9 hy => ?_)
  · subst hy
    replace hf := exKl hf
    refine v_iconst (v := 1) g dk_1_follow_111 (by decide) (pc' := 112) rfl ?_
    exact v_zret g hr hlk hK rfl (Option.some.inj hf) dk_1_follow_112
  · subst hy
    exact Option.some.inj hf
abbrev rm_MX_leaveOut : Room := { frames := 0, cells := 0, slots := 0, locals := 0 }
def L_MX_leaveOut_20 (x2 : Int32) : Nat → StM → Int32 → Int32 → Option (StM × Int32)
  | 0, _, _, _ => none
  | n + 1, S, x1, x3 =>
    if (gI S 15) ≤ x3 then some (S, x1)
    else if inb x2 61 = true then if (gA S 26 x2.toNatClampNeg) = 0 then if inb (((60 : Int32) * x2) + x3) 3721 = true then if (gA S 27 (((60 : Int32) * x2) + x3).toNatClampNeg) = 0 then L_MX_leaveOut_20 x2 n S x1 (x3 + 1)
    else if inb x3 61 = true then if (gA S 26 x3.toNatClampNeg) ≤ 0 then L_MX_leaveOut_20 x2 n S x1 (x3 + 1)
    else L_MX_leaveOut_20 x2 n (tA S 26 x2 2) 1 (x3 + 1) else none else none
    else L_MX_leaveOut_20 x2 n S x1 (x3 + 1) else none
set_option maxHeartbeats 4000000 in
set_option maxRecDepth 100000 in
theorem w_MX_leaveOut_20 {p : Program} {l : Launch} {e : Env} {s : State} {m : MethodId} {args : Array Value} {below : List Frame} {meth : Method} {c : Code} {A : Nat → Prop} {D : va_G} {ad : Nat → Nat} {ca : Nat → ClassId} {Rm : StM} {x2 : Int32} (g : CallFix p m c bk_1_leaveOut 4 s args tb Rk_1) (hr : meth.sig.returnType = none) (hlk : meth.locks = false) (hK : va_K D vwCl (tyM ca) s) (hA : ∀ q, s.heap.size ≤ q → A q) : ∀ (n : Nat) (S : StM) (x1 : Int32) (x3 : Int32) (o : StM × Int32), L_MX_leaveOut_20 x2 n S x1 x3 = some o → (Vj p l e rm_MX_leaveOut s m args below meth c (MQ below (qV D vwCl (tyM ca) (wdM ad ca) A Rm) args s 0 0 A) D vwCl A 4 0 0 (wdM ad ca o.1) 75 [(0, .ref (ad 0)), (1, .int o.2), (2, .int x2)] []) → Vj p l e rm_MX_leaveOut s m args below meth c (MQ below (qV D vwCl (tyM ca) (wdM ad ca) A Rm) args s 0 0 A) D vwCl A 4 0 0 (wdM ad ca S) 20 [(0, .ref (ad 0)), (1, .int x1), (2, .int x2), (3, .int x3)] [] := by
  intro n
  induction n with
  | zero => intro S x1 x3 o hf; exact nomatch (show none = some o from hf)
  | succ n ih =>
    intro S x1 x3 o hf hx
    rw [L_MX_leaveOut_20] at hf
    refine v_iload_n g dk_1_leaveOut_20 3 rfl rfl (pc' := 21) rfl ?_
    refine v_aload_n g dk_1_leaveOut_21 0 rfl rfl (pc' := 22) rfl ?_
    refine gfM_X_213 g hK dk_1_leaveOut_22 (pc' := 25) rfl ?_
    refine v_icmp_ge (tgt := 75) (pc' := 28) g dk_1_leaveOut_25 (by decide) rfl (fun hc => ?_) (fun hc => ?_)
    · replace hf := ifT hc hf
      refine v_sub [0, 1, 2] rfl ?_
      have e9 := Option.some.inj hf
      subst e9
      exact hx
    · replace hf := ifF hc hf
      refine v_aload_n g dk_1_leaveOut_28 0 rfl rfl (pc' := 29) rfl ?_
      refine gfM_X_93 g hK dk_1_leaveOut_29 (pc' := 32) rfl ?_
      refine v_iload_n g dk_1_leaveOut_32 2 rfl rfl (pc' := 33) rfl ?_
      obtain ⟨hb1, hf⟩ := grd hf
      refine alM_27 g hK hb1 dk_1_leaveOut_33 (pc' := 34) rfl ?_
      refine v_if_ne (tgt := 69) (pc' := 37) g dk_1_leaveOut_34 (by decide) rfl (fun hc => ?_) (fun hc => ?_)
      · replace hf := ifF hc hf
        refine v_iinc (j := 3) (v := x3 + 1) (lv' := [(3, .int (x3 + 1)), (0, .ref (ad 0)), (1, .int x1), (2, .int x2)]) g dk_1_leaveOut_69 rfl rfl (by decide) rfl (pc' := 72) rfl ?_
        refine v_goto (tgt := 20) g dk_1_leaveOut_72 (by decide) ?_
        refine v_sub [1, 2, 3, 0] rfl ?_
        exact ih S x1 (x3 + 1) o hf hx
      · replace hf := ifT hc hf
        refine v_aload_n g dk_1_leaveOut_37 0 rfl rfl (pc' := 38) rfl ?_
        refine gfM_X_96 g hK dk_1_leaveOut_38 (pc' := 41) rfl ?_
        refine v_bipush (v := 60) g dk_1_leaveOut_41 (by decide) (pc' := 43) rfl ?_
        refine v_iload_n g dk_1_leaveOut_43 2 rfl rfl (pc' := 44) rfl ?_
        refine v_imul g dk_1_leaveOut_44 (pc' := 45) rfl ?_
        refine v_iload_n g dk_1_leaveOut_45 3 rfl rfl (pc' := 46) rfl ?_
        refine v_iadd g dk_1_leaveOut_46 (pc' := 47) rfl ?_
        obtain ⟨hb2, hf⟩ := grd hf
        refine alM_28 g hK hb2 dk_1_leaveOut_47 (pc' := 48) rfl ?_
        refine v_if_eq (tgt := 69) (pc' := 51) g dk_1_leaveOut_48 (by decide) rfl (fun hc => ?_) (fun hc => ?_)
        · replace hf := ifT hc hf
          refine v_iinc (j := 3) (v := x3 + 1) (lv' := [(3, .int (x3 + 1)), (0, .ref (ad 0)), (1, .int x1), (2, .int x2)]) g dk_1_leaveOut_69 rfl rfl (by decide) rfl (pc' := 72) rfl ?_
          refine v_goto (tgt := 20) g dk_1_leaveOut_72 (by decide) ?_
          refine v_sub [1, 2, 3, 0] rfl ?_
          exact ih S x1 (x3 + 1) o hf hx
        · replace hf := ifF hc hf
          refine v_aload_n g dk_1_leaveOut_51 0 rfl rfl (pc' := 52) rfl ?_
          refine gfM_X_93 g hK dk_1_leaveOut_52 (pc' := 55) rfl ?_
          refine v_iload_n g dk_1_leaveOut_55 3 rfl rfl (pc' := 56) rfl ?_
          obtain ⟨hb3, hf⟩ := grd hf
          refine alM_27 g hK hb3 dk_1_leaveOut_56 (pc' := 57) rfl ?_
          refine v_if_le (tgt := 69) (pc' := 60) g dk_1_leaveOut_57 (by decide) rfl (fun hc => ?_) (fun hc => ?_)
          · replace hf := ifT hc hf
            refine v_iinc (j := 3) (v := x3 + 1) (lv' := [(3, .int (x3 + 1)), (0, .ref (ad 0)), (1, .int x1), (2, .int x2)]) g dk_1_leaveOut_69 rfl rfl (by decide) rfl (pc' := 72) rfl ?_
            refine v_goto (tgt := 20) g dk_1_leaveOut_72 (by decide) ?_
            refine v_sub [1, 2, 3, 0] rfl ?_
            exact ih S x1 (x3 + 1) o hf hx
          · replace hf := ifF hc hf
            refine v_aload_n g dk_1_leaveOut_60 0 rfl rfl (pc' := 61) rfl ?_
            refine gfM_X_93 g hK dk_1_leaveOut_61 (pc' := 64) rfl ?_
            refine v_iload_n g dk_1_leaveOut_64 2 rfl rfl (pc' := 65) rfl ?_
            refine v_iconst (v := 2) g dk_1_leaveOut_65 (by decide) (pc' := 66) rfl ?_
            refine asM_27 g hK hb1 dk_1_leaveOut_66 (pc' := 67) rfl ?_
            refine v_iconst (v := 1) g dk_1_leaveOut_67 (by decide) (pc' := 68) rfl ?_
            refine v_istore_n (lv' := [(1, .int 1), (0, .ref (ad 0)), (2, .int x2), (3, .int x3)]) g dk_1_leaveOut_68 rfl (by decide) rfl (pc' := 69) rfl ?_
            refine v_iinc (j := 3) (v := x3 + 1) (lv' := [(3, .int (x3 + 1)), (1, .int 1), (0, .ref (ad 0)), (2, .int x2)]) g dk_1_leaveOut_69 rfl rfl (by decide) rfl (pc' := 72) rfl ?_
            refine v_goto (tgt := 20) g dk_1_leaveOut_72 (by decide) ?_
            refine v_sub [2, 1, 3, 0] rfl ?_
            exact ih (tA S 26 x2 2) 1 (x3 + 1) o hf hx
def L_MX_leaveOut_10 : Nat → StM → Int32 → Int32 → Option (StM × Int32)
  | 0, _, _, _ => none
  | n + 1, S, x1, x2 =>
    if (gI S 15) ≤ x2 then some (S, x1)
    else (L_MX_leaveOut_20 x2 100 S x1 0).bind fun y5 =>
    L_MX_leaveOut_10 n y5.1 y5.2 (x2 + 1)
set_option maxHeartbeats 4000000 in
set_option maxRecDepth 100000 in
theorem w_MX_leaveOut_10 {p : Program} {l : Launch} {e : Env} {s : State} {m : MethodId} {args : Array Value} {below : List Frame} {meth : Method} {c : Code} {A : Nat → Prop} {D : va_G} {ad : Nat → Nat} {ca : Nat → ClassId} {Rm : StM} (g : CallFix p m c bk_1_leaveOut 4 s args tb Rk_1) (hr : meth.sig.returnType = none) (hlk : meth.locks = false) (hK : va_K D vwCl (tyM ca) s) (hA : ∀ q, s.heap.size ≤ q → A q) : ∀ (n : Nat) (S : StM) (x1 : Int32) (x2 : Int32) (o : StM × Int32), L_MX_leaveOut_10 n S x1 x2 = some o → (Vj p l e rm_MX_leaveOut s m args below meth c (MQ below (qV D vwCl (tyM ca) (wdM ad ca) A Rm) args s 0 0 A) D vwCl A 4 0 0 (wdM ad ca o.1) 81 [(0, .ref (ad 0)), (1, .int o.2)] []) → Vj p l e rm_MX_leaveOut s m args below meth c (MQ below (qV D vwCl (tyM ca) (wdM ad ca) A Rm) args s 0 0 A) D vwCl A 4 0 0 (wdM ad ca S) 10 [(0, .ref (ad 0)), (1, .int x1), (2, .int x2)] [] := by
  intro n
  induction n with
  | zero => intro S x1 x2 o hf; exact nomatch (show none = some o from hf)
  | succ n ih =>
    intro S x1 x2 o hf hx
    rw [L_MX_leaveOut_10] at hf
    refine v_iload_n g dk_1_leaveOut_10 2 rfl rfl (pc' := 11) rfl ?_
    refine v_aload_n g dk_1_leaveOut_11 0 rfl rfl (pc' := 12) rfl ?_
    refine gfM_X_213 g hK dk_1_leaveOut_12 (pc' := 15) rfl ?_
    refine v_icmp_ge (tgt := 81) (pc' := 18) g dk_1_leaveOut_15 (by decide) rfl (fun hc => ?_) (fun hc => ?_)
    · replace hf := ifT hc hf
      refine v_sub [0, 1] rfl ?_
      have e9 := Option.some.inj hf
      subst e9
      exact hx
    · replace hf := ifF hc hf
      refine v_iconst (v := 0) g dk_1_leaveOut_18 (by decide) (pc' := 19) rfl ?_
      refine v_istore_n (lv' := [(3, .int 0), (0, .ref (ad 0)), (1, .int x1), (2, .int x2)]) g dk_1_leaveOut_19 rfl (by decide) rfl (pc' := 20) rfl ?_
      refine v_sub [1, 2, 3, 0] rfl ?_
      obtain ⟨y5, hL, hf⟩ := bnd hf
      refine w_MX_leaveOut_20 g hr hlk hK hA 100 S x1 0 _ hL ?_
      refine v_iinc (j := 2) (v := x2 + 1) (lv' := [(2, .int (x2 + 1)), (0, .ref (ad 0)), (1, .int y5.2)]) g dk_1_leaveOut_75 rfl rfl (by decide) rfl (pc' := 78) rfl ?_
      refine v_goto (tgt := 10) g dk_1_leaveOut_78 (by decide) ?_
      refine v_sub [1, 2, 0] rfl ?_
      exact ih y5.1 y5.2 (x2 + 1) o hf hx
def L_MX_leaveOut_2 : Nat → StM → Int32 → Option (StM)
  | 0, _, _ => none
  | n + 1, S, x1 =>
    if x1 = 0 then some S
    else (L_MX_leaveOut_10 100 S 0 0).bind fun y7 =>
    L_MX_leaveOut_2 n y7.1 y7.2
set_option maxHeartbeats 4000000 in
set_option maxRecDepth 100000 in
theorem w_MX_leaveOut_2 {p : Program} {l : Launch} {e : Env} {s : State} {m : MethodId} {args : Array Value} {below : List Frame} {meth : Method} {c : Code} {A : Nat → Prop} {D : va_G} {ad : Nat → Nat} {ca : Nat → ClassId} {Rm : StM} (g : CallFix p m c bk_1_leaveOut 4 s args tb Rk_1) (hr : meth.sig.returnType = none) (hlk : meth.locks = false) (hK : va_K D vwCl (tyM ca) s) (hA : ∀ q, s.heap.size ≤ q → A q) : ∀ (n : Nat) (S : StM) (x1 : Int32) (o : StM), L_MX_leaveOut_2 n S x1 = some o → (Vj p l e rm_MX_leaveOut s m args below meth c (MQ below (qV D vwCl (tyM ca) (wdM ad ca) A Rm) args s 0 0 A) D vwCl A 4 0 0 (wdM ad ca o) 84 [] []) → Vj p l e rm_MX_leaveOut s m args below meth c (MQ below (qV D vwCl (tyM ca) (wdM ad ca) A Rm) args s 0 0 A) D vwCl A 4 0 0 (wdM ad ca S) 2 [(0, .ref (ad 0)), (1, .int x1)] [] := by
  intro n
  induction n with
  | zero => intro S x1 o hf; exact nomatch (show none = some o from hf)
  | succ n ih =>
    intro S x1 o hf hx
    rw [L_MX_leaveOut_2] at hf
    refine v_iload_n g dk_1_leaveOut_2 1 rfl rfl (pc' := 3) rfl ?_
    refine v_if_eq (tgt := 84) (pc' := 6) g dk_1_leaveOut_3 (by decide) rfl (fun hc => ?_) (fun hc => ?_)
    · replace hf := ifT hc hf
      refine v_sub [] rfl ?_
      have e9 := Option.some.inj hf
      subst e9
      exact hx
    · replace hf := ifF hc hf
      refine v_iconst (v := 0) g dk_1_leaveOut_6 (by decide) (pc' := 7) rfl ?_
      refine v_istore_n (lv' := [(1, .int 0), (0, .ref (ad 0))]) g dk_1_leaveOut_7 rfl (by decide) rfl (pc' := 8) rfl ?_
      refine v_iconst (v := 0) g dk_1_leaveOut_8 (by decide) (pc' := 9) rfl ?_
      refine v_istore_n (lv' := [(2, .int 0), (1, .int 0), (0, .ref (ad 0))]) g dk_1_leaveOut_9 rfl (by decide) rfl (pc' := 10) rfl ?_
      refine v_sub [2, 1, 0] rfl ?_
      obtain ⟨y7, hL, hf⟩ := bnd hf
      refine w_MX_leaveOut_10 g hr hlk hK hA 100 S 0 0 _ hL ?_
      refine v_goto (tgt := 2) g dk_1_leaveOut_81 (by decide) ?_
      refine v_sub [0, 1] rfl ?_
      exact ih y7.1 y7.2 o hf hx
def m_MX_leaveOut (S : StM) : Option StM :=
  (L_MX_leaveOut_2 100 S 1).bind fun y9 =>
    some y9
set_option maxHeartbeats 4000000 in
set_option maxRecDepth 100000 in
theorem c_MX_leaveOut {l : Launch} {D : va_G} {ad : Nat → Nat} {ca : Nat → ClassId} {S : StM} {r : StM} (hf : m_MX_leaveOut S = some r) : KVM l D ad ca yk_1_leaveOut (.code yk_1_leaveOut bk_1_leaveOut 4 none :: tb) rm_MX_leaveOut [.ref (ad 0)] S r := by
  refine met_v (by decide) (Nat.le_of_ble_eq_true rfl) (fun p e s m below meth c A g hr hlk hK hA => ?_)
  replace g : CallFix p m c bk_1_leaveOut 4 s _ tb Rk_1 := g
  refine v_lv (lv' := [(0, .ref (ad 0))]) rfl ?_
  unfold m_MX_leaveOut at hf
  refine v_iconst (v := 1) g dk_1_leaveOut_0 (by decide) (pc' := 1) rfl ?_
  refine v_istore_n (lv' := [(1, .int 1), (0, .ref (ad 0))]) g dk_1_leaveOut_1 rfl (by decide) rfl (pc' := 2) rfl ?_
  refine v_sub [1, 0] rfl ?_
  obtain ⟨y9, hL, hf⟩ := bnd hf
  refine w_MX_leaveOut_2 g hr hlk hK hA 100 S 1 _ hL ?_
  exact v_vret g hr hlk hK  (Option.some.inj hf) dk_1_leaveOut_84
