abbrev rm_MX_expand : Room := { frames := 8, cells := 0, slots := 0, locals := 187 }
def L_MX_expand_70 (x4 : Int32) : Nat → StM → Int32 → Int32 → Option (StM × Int32)
  | 0, _, _, _ => none
  | n + 1, S, x3, x5 =>
    if (gI S 6) ≤ x5 then some (S, x3)
    else if x3 = 0 then some (S, x3)
    else if inb x5 40 = true then if inb x4 61 = true then if (gA S 19 x5.toNatClampNeg) = (gA S 24 x4.toNatClampNeg) then (m_MX_follow S x4 x5).bind fun q7 =>
    if q7.1 = 0 then L_MX_expand_70 x4 n q7.2 0 (x5 + 1)
    else L_MX_expand_70 x4 n q7.2 1 (x5 + 1)
    else L_MX_expand_70 x4 n S 1 (x5 + 1) else none else none
set_option maxHeartbeats 4000000 in
set_option maxRecDepth 100000 in
theorem w_MX_expand_70 {p : Program} {l : Launch} {e : Env} {s : State} {m : MethodId} {args : Array Value} {below : List Frame} {meth : Method} {c : Code} {A : Nat → Prop} {D : va_G} {ad : Nat → Nat} {ca : Nat → ClassId} {Rm : Int32 × StM} {x4 : Int32} (g : CallFix p m c bk_1_expand 6 s args tb Rk_1) (hr : meth.sig.returnType = some .int) (hlk : meth.locks = false) (hK : va_K D vwCl (tyM ca) s) (hA : ∀ q, s.heap.size ≤ q → A q) : ∀ (n : Nat) (S : StM) (x3 : Int32) (x5 : Int32) (o : StM × Int32), L_MX_expand_70 x4 n S x3 x5 = some o → (Vj p l e rm_MX_expand s m args below meth c (MQ below (qI D vwCl (tyM ca) (wdM ad ca) A Rm) args s 0 0 A) D vwCl A 6 0 0 (wdM ad ca o.1) 123 [(0, .ref (ad 0)), (3, .int o.2), (4, .int x4)] []) → Vj p l e rm_MX_expand s m args below meth c (MQ below (qI D vwCl (tyM ca) (wdM ad ca) A Rm) args s 0 0 A) D vwCl A 6 0 0 (wdM ad ca S) 70 [(0, .ref (ad 0)), (3, .int x3), (4, .int x4), (5, .int x5)] [] := by
  intro n
  induction n with
  | zero => intro S x3 x5 o hf; exact nomatch (show none = some o from hf)
  | succ n ih =>
    intro S x3 x5 o hf hx
    rw [L_MX_expand_70] at hf
    refine v_iload g dk_1_expand_70 3 rfl (pc' := 72) rfl ?_
    refine v_aload_n g dk_1_expand_72 0 rfl rfl (pc' := 73) rfl ?_
    refine gfM_X_195 g hK dk_1_expand_73 (pc' := 76) rfl ?_
    refine v_icmp_ge (tgt := 123) (pc' := 79) g dk_1_expand_76 (by decide) rfl (fun hc => ?_) (fun hc => ?_)
    · replace hf := ifT hc hf
      refine v_sub [0, 1, 2] rfl ?_
      have e9 := Option.some.inj hf
      subst e9
      exact hx
    · replace hf := ifF hc hf
      refine v_iload_n g dk_1_expand_79 1 rfl rfl (pc' := 80) rfl ?_
      refine v_if_eq (tgt := 123) (pc' := 83) g dk_1_expand_80 (by decide) rfl (fun hc => ?_) (fun hc => ?_)
      · replace hf := ifT hc hf
        refine v_sub [0, 1, 2] rfl ?_
        have e9 := Option.some.inj hf
        subst e9
        exact hx
      · replace hf := ifF hc hf
        refine v_aload_n g dk_1_expand_83 0 rfl rfl (pc' := 84) rfl ?_
        refine gfM_X_68 g hK dk_1_expand_84 (pc' := 87) rfl ?_
        refine v_iload g dk_1_expand_87 3 rfl (pc' := 89) rfl ?_
        obtain ⟨hb5, hf⟩ := grd hf
        refine alM_20 g hK hb5 dk_1_expand_89 (pc' := 90) rfl ?_
        refine v_aload_n g dk_1_expand_90 0 rfl rfl (pc' := 91) rfl ?_
        refine gfM_X_87 g hK dk_1_expand_91 (pc' := 94) rfl ?_
        refine v_iload g dk_1_expand_94 2 rfl (pc' := 96) rfl ?_
        obtain ⟨hb6, hf⟩ := grd hf
        refine alM_25 g hK hb6 dk_1_expand_96 (pc' := 97) rfl ?_
        refine v_icmp_ne (tgt := 111) (pc' := 100) g dk_1_expand_97 (by decide) rfl (fun hc => ?_) (fun hc => ?_)
        · replace hf := ifF hc hf
          refine v_iconst (v := 1) g dk_1_expand_111 (by decide) (pc' := 112) rfl ?_
          refine v_goto (tgt := 116) g dk_1_expand_112 (by decide) ?_
          refine v_istore_n (lv' := [(3, .int 1), (0, .ref (ad 0)), (4, .int x4), (5, .int x5)]) g dk_1_expand_116 rfl (by decide) rfl (pc' := 117) rfl ?_
          refine v_iinc (j := 3) (v := x5 + 1) (lv' := [(5, .int (x5 + 1)), (3, .int 1), (0, .ref (ad 0)), (4, .int x4)]) g dk_1_expand_117 rfl rfl (by decide) rfl (pc' := 120) rfl ?_
          refine v_goto (tgt := 70) g dk_1_expand_120 (by decide) ?_
          refine v_sub [2, 1, 3, 0] rfl ?_
          exact ih S 1 (x5 + 1) o hf hx
        · replace hf := ifT hc hf
          refine v_aload_n g dk_1_expand_100 0 rfl rfl (pc' := 101) rfl ?_
          refine v_iload g dk_1_expand_101 2 rfl (pc' := 103) rfl ?_
          refine v_iload g dk_1_expand_103 3 rfl (pc' := 105) rfl ?_
          obtain ⟨q7, hq, hf⟩ := bnd hf
          refine v_callV_i (As := [.int x4, .int x5]) (rest := []) (r := q7.1) (S1 := q7.2) g hK hA (c_MX_follow hq) (kcM_X_227 g.2.2.2.2 rfl rfl (Nat.le_of_ble_eq_true rfl) (Nat.le_of_ble_eq_true rfl)) (ci := 1) (q0 := 0) rfl rfl rfl rfl rfl (Nat.le_of_ble_eq_true rfl) dk_1_expand_105 (Nat.zero_le _) (Nat.zero_le _) (pc' := 108) rfl ?_
          refine v_if_eq (tgt := 115) (pc' := 111) g dk_1_expand_108 (by decide) rfl (fun hc => ?_) (fun hc => ?_)
          · replace hf := ifT hc hf
            refine v_iconst (v := 0) g dk_1_expand_115 (by decide) (pc' := 116) rfl ?_
            refine v_istore_n (lv' := [(3, .int 0), (0, .ref (ad 0)), (4, .int x4), (5, .int x5)]) g dk_1_expand_116 rfl (by decide) rfl (pc' := 117) rfl ?_
            refine v_iinc (j := 3) (v := x5 + 1) (lv' := [(5, .int (x5 + 1)), (3, .int 0), (0, .ref (ad 0)), (4, .int x4)]) g dk_1_expand_117 rfl rfl (by decide) rfl (pc' := 120) rfl ?_
            refine v_goto (tgt := 70) g dk_1_expand_120 (by decide) ?_
            refine v_sub [2, 1, 3, 0] rfl ?_
            exact ih q7.2 0 (x5 + 1) o hf hx
          · replace hf := ifF hc hf
            refine v_iconst (v := 1) g dk_1_expand_111 (by decide) (pc' := 112) rfl ?_
            refine v_goto (tgt := 116) g dk_1_expand_112 (by decide) ?_
            refine v_istore_n (lv' := [(3, .int 1), (0, .ref (ad 0)), (4, .int x4), (5, .int x5)]) g dk_1_expand_116 rfl (by decide) rfl (pc' := 117) rfl ?_
            refine v_iinc (j := 3) (v := x5 + 1) (lv' := [(5, .int (x5 + 1)), (3, .int 1), (0, .ref (ad 0)), (4, .int x4)]) g dk_1_expand_117 rfl rfl (by decide) rfl (pc' := 120) rfl ?_
            refine v_goto (tgt := 70) g dk_1_expand_120 (by decide) ?_
            refine v_sub [2, 1, 3, 0] rfl ?_
            exact ih q7.2 1 (x5 + 1) o hf hx
def L_MX_expand_54 : Nat → StM → Int32 → Int32 → Option (StM × Int32)
  | 0, _, _, _ => none
  | n + 1, S, x3, x4 =>
    if (gI S 15) ≤ x4 then some (S, x3)
    else if x3 = 0 then some (S, x3)
    else (L_MX_expand_70 x4 100 S x3 0).bind fun y9 =>
    L_MX_expand_54 n y9.1 y9.2 (x4 + 1)
set_option maxHeartbeats 4000000 in
set_option maxRecDepth 100000 in
theorem w_MX_expand_54 {p : Program} {l : Launch} {e : Env} {s : State} {m : MethodId} {args : Array Value} {below : List Frame} {meth : Method} {c : Code} {A : Nat → Prop} {D : va_G} {ad : Nat → Nat} {ca : Nat → ClassId} {Rm : Int32 × StM} (g : CallFix p m c bk_1_expand 6 s args tb Rk_1) (hr : meth.sig.returnType = some .int) (hlk : meth.locks = false) (hK : va_K D vwCl (tyM ca) s) (hA : ∀ q, s.heap.size ≤ q → A q) : ∀ (n : Nat) (S : StM) (x3 : Int32) (x4 : Int32) (o : StM × Int32), L_MX_expand_54 n S x3 x4 = some o → (Vj p l e rm_MX_expand s m args below meth c (MQ below (qI D vwCl (tyM ca) (wdM ad ca) A Rm) args s 0 0 A) D vwCl A 6 0 0 (wdM ad ca o.1) 129 [(0, .ref (ad 0)), (3, .int o.2)] []) → Vj p l e rm_MX_expand s m args below meth c (MQ below (qI D vwCl (tyM ca) (wdM ad ca) A Rm) args s 0 0 A) D vwCl A 6 0 0 (wdM ad ca S) 54 [(0, .ref (ad 0)), (3, .int x3), (4, .int x4)] [] := by
  intro n
  induction n with
  | zero => intro S x3 x4 o hf; exact nomatch (show none = some o from hf)
  | succ n ih =>
    intro S x3 x4 o hf hx
    rw [L_MX_expand_54] at hf
    refine v_iload g dk_1_expand_54 2 rfl (pc' := 56) rfl ?_
    refine v_aload_n g dk_1_expand_56 0 rfl rfl (pc' := 57) rfl ?_
    refine gfM_X_213 g hK dk_1_expand_57 (pc' := 60) rfl ?_
    refine v_icmp_ge (tgt := 129) (pc' := 63) g dk_1_expand_60 (by decide) rfl (fun hc => ?_) (fun hc => ?_)
    · replace hf := ifT hc hf
      refine v_sub [0, 1] rfl ?_
      have e9 := Option.some.inj hf
      subst e9
      exact hx
    · replace hf := ifF hc hf
      refine v_iload_n g dk_1_expand_63 1 rfl rfl (pc' := 64) rfl ?_
      refine v_if_eq (tgt := 129) (pc' := 67) g dk_1_expand_64 (by decide) rfl (fun hc => ?_) (fun hc => ?_)
      · replace hf := ifT hc hf
        refine v_sub [0, 1] rfl ?_
        have e9 := Option.some.inj hf
        subst e9
        exact hx
      · replace hf := ifF hc hf
        refine v_iconst (v := 0) g dk_1_expand_67 (by decide) (pc' := 68) rfl ?_
        refine v_istore (lv' := [(5, .int 0), (0, .ref (ad 0)), (3, .int x3), (4, .int x4)]) g dk_1_expand_68 (by decide) rfl (pc' := 70) rfl ?_
        refine v_sub [1, 2, 3, 0] rfl ?_
        obtain ⟨y9, hL, hf⟩ := bnd hf
        refine w_MX_expand_70 g hr hlk hK hA 100 S x3 0 _ hL ?_
        refine v_iinc (j := 2) (v := x4 + 1) (lv' := [(4, .int (x4 + 1)), (0, .ref (ad 0)), (3, .int y9.2)]) g dk_1_expand_123 rfl rfl (by decide) rfl (pc' := 126) rfl ?_
        refine v_goto (tgt := 54) g dk_1_expand_126 (by decide) ?_
        refine v_sub [1, 2, 0] rfl ?_
        exact ih y9.1 y9.2 (x4 + 1) o hf hx
def m_MX_expand (S : StM) (x1 : Int32) (x2 : Int32) : Option (Int32 × StM) :=
  (m_MX_in S x1 (gI S 5)).bind fun q1 =>
    if q1 = 0 then some ((-1), S)
    else (m_MX_in S x2 (gI S 2)).bind fun q2 =>
    if q2 = 0 then some ((-1), S)
    else (m_MX_copy (sI S 15 0) x2 60).bind fun q3 =>
    (m_MX_pairOf q3 x1).bind fun q4 =>
    if q4.1 = (-1) then (L_MX_expand_54 100 q4.2 0 0).bind fun y11 =>
    if y11.2 = 0 then some ((-2), sI y11.1 15 0)
    else (m_MX_leaveOut y11.1).bind fun q12 =>
    some (gI q12 15, q12)
    else (L_MX_expand_54 100 q4.2 1 0).bind fun y14 =>
    if y14.2 = 0 then some ((-2), sI y14.1 15 0)
    else (m_MX_leaveOut y14.1).bind fun q15 =>
    some (gI q15 15, q15)
set_option maxHeartbeats 4000000 in
set_option maxRecDepth 100000 in
theorem c_MX_expand {l : Launch} {D : va_G} {ad : Nat → Nat} {ca : Nat → ClassId} {S : StM} {x1 : Int32} {x2 : Int32} {r : Int32 × StM} (hf : m_MX_expand S x1 x2 = some r) : KIM l D ad ca yk_1_expand (.code yk_1_expand bk_1_expand 6 (some .int) :: tb) rm_MX_expand [.ref (ad 0), .int x1, .int x2] S r := by
  refine met_i (by decide) (Nat.le_of_ble_eq_true rfl) (fun p e s m below meth c A g hr hlk hK hA => ?_)
  replace g : CallFix p m c bk_1_expand 6 s _ tb Rk_1 := g
  refine v_lv (lv' := [(0, .ref (ad 0)), (1, .int x1), (2, .int x2)]) rfl ?_
  unfold m_MX_expand at hf
  refine v_iload_n g dk_1_expand_0 1 rfl rfl (pc' := 1) rfl ?_
  refine v_aload_n g dk_1_expand_1 0 rfl rfl (pc' := 2) rfl ?_
  refine gfM_X_138 g hK dk_1_expand_2 (pc' := 5) rfl ?_
  obtain ⟨q1, hq, hf⟩ := bnd hf
  refine v_callS_i (As := [.int x1, .int (gI S 5)]) (rest := []) (r := q1) (S1 := S) g hK hA (c_MX_in hq) (kcM_X_102 g.2.2.2.2 rfl rfl (Nat.le_of_ble_eq_true rfl) (Nat.le_of_ble_eq_true rfl)) rfl rfl (Nat.le_of_ble_eq_true rfl) dk_1_expand_5 (Nat.zero_le _) (Nat.zero_le _) (pc' := 8) rfl ?_
  refine v_if_eq (tgt := 22) (pc' := 11) g dk_1_expand_8 (by decide) rfl (fun hc => ?_) (fun hc => ?_)
  · replace hf := ifT hc hf
    refine v_iconst (v := (-1)) g dk_1_expand_22 (by decide) (pc' := 23) rfl ?_
    exact v_iret g hr hlk hK  (Option.some.inj hf) dk_1_expand_23
  · replace hf := ifF hc hf
    refine v_iload_n g dk_1_expand_11 2 rfl rfl (pc' := 12) rfl ?_
    refine v_aload_n g dk_1_expand_12 0 rfl rfl (pc' := 13) rfl ?_
    refine gfM_X_113 g hK dk_1_expand_13 (pc' := 16) rfl ?_
    obtain ⟨q2, hq, hf⟩ := bnd hf
    refine v_callS_i (As := [.int x2, .int (gI S 2)]) (rest := []) (r := q2) (S1 := S) g hK hA (c_MX_in hq) (kcM_X_102 g.2.2.2.2 rfl rfl (Nat.le_of_ble_eq_true rfl) (Nat.le_of_ble_eq_true rfl)) rfl rfl (Nat.le_of_ble_eq_true rfl) dk_1_expand_16 (Nat.zero_le _) (Nat.zero_le _) (pc' := 19) rfl ?_
    refine v_if_ne (tgt := 24) (pc' := 22) g dk_1_expand_19 (by decide) rfl (fun hc => ?_) (fun hc => ?_)
    · replace hf := ifF hc hf
      refine v_aload_n g dk_1_expand_24 0 rfl rfl (pc' := 25) rfl ?_
      refine v_iconst (v := 0) g dk_1_expand_25 (by decide) (pc' := 26) rfl ?_
      refine pfM_X_213 g hK dk_1_expand_26 (pc' := 29) rfl ?_
      refine v_aload_n g dk_1_expand_29 0 rfl rfl (pc' := 30) rfl ?_
      refine v_iload_n g dk_1_expand_30 2 rfl rfl (pc' := 31) rfl ?_
      refine v_bipush (v := 60) g dk_1_expand_31 (by decide) (pc' := 33) rfl ?_
      obtain ⟨q3, hq, hf⟩ := bnd hf
      refine v_callV_v (As := [.int x2, .int 60]) (rest := []) (S1 := q3) g hK hA (c_MX_copy hq) (kcM_X_150 g.2.2.2.2 rfl rfl (Nat.le_of_ble_eq_true rfl) (Nat.le_of_ble_eq_true rfl)) (ci := 1) (q0 := 0) rfl rfl rfl rfl rfl (Nat.le_of_ble_eq_true rfl) dk_1_expand_33 (Nat.zero_le _) (Nat.zero_le _) (pc' := 36) rfl ?_
      refine v_aload_n g dk_1_expand_36 0 rfl rfl (pc' := 37) rfl ?_
      refine v_iload_n g dk_1_expand_37 1 rfl rfl (pc' := 38) rfl ?_
      obtain ⟨q4, hq, hf⟩ := bnd hf
      refine v_callV_i (As := [.int x1]) (rest := []) (r := q4.1) (S1 := q4.2) g hK hA (c_MX_pairOf hq) (kcM_X_224 g.2.2.2.2 rfl rfl (Nat.le_of_ble_eq_true rfl) (Nat.le_of_ble_eq_true rfl)) (ci := 1) (q0 := 0) rfl rfl rfl rfl rfl (Nat.le_of_ble_eq_true rfl) dk_1_expand_38 (Nat.zero_le _) (Nat.zero_le _) (pc' := 41) rfl ?_
      refine v_iconst (v := (-1)) g dk_1_expand_41 (by decide) (pc' := 42) rfl ?_
      refine v_icmp_eq (tgt := 49) (pc' := 45) g dk_1_expand_42 (by decide) rfl (fun hc => ?_) (fun hc => ?_)
      · replace hf := ifT hc hf
        refine v_iconst (v := 0) g dk_1_expand_49 (by decide) (pc' := 50) rfl ?_
        refine v_istore_n (lv' := [(3, .int 0), (0, .ref (ad 0)), (1, .int x1), (2, .int x2)]) g dk_1_expand_50 rfl (by decide) rfl (pc' := 51) rfl ?_
        refine v_iconst (v := 0) g dk_1_expand_51 (by decide) (pc' := 52) rfl ?_
        refine v_istore (lv' := [(4, .int 0), (3, .int 0), (0, .ref (ad 0)), (1, .int x1), (2, .int x2)]) g dk_1_expand_52 (by decide) rfl (pc' := 54) rfl ?_
        refine v_sub [2, 1, 0] rfl ?_
        obtain ⟨y11, hL, hf⟩ := bnd hf
        refine w_MX_expand_54 g hr hlk hK hA 100 q4.2 0 0 _ hL ?_
        refine v_iload_n g dk_1_expand_129 1 rfl rfl (pc' := 130) rfl ?_
        refine v_if_ne (tgt := 141) (pc' := 133) g dk_1_expand_130 (by decide) rfl (fun hc => ?_) (fun hc => ?_)
        · replace hf := ifF hc hf
          refine v_aload_n g dk_1_expand_141 0 rfl rfl (pc' := 142) rfl ?_
          obtain ⟨q12, hq, hf⟩ := bnd hf
          refine v_callV_v (As := []) (rest := []) (S1 := q12) g hK hA (c_MX_leaveOut hq) (kcM_X_230 g.2.2.2.2 rfl rfl (Nat.le_of_ble_eq_true rfl) (Nat.le_of_ble_eq_true rfl)) (ci := 1) (q0 := 0) rfl rfl rfl rfl rfl (Nat.le_of_ble_eq_true rfl) dk_1_expand_142 (Nat.zero_le _) (Nat.zero_le _) (pc' := 145) rfl ?_
          refine v_aload_n g dk_1_expand_145 0 rfl rfl (pc' := 146) rfl ?_
          refine gfM_X_213 g hK dk_1_expand_146 (pc' := 149) rfl ?_
          exact v_iret g hr hlk hK  (Option.some.inj hf) dk_1_expand_149
        · replace hf := ifT hc hf
          refine v_aload_n g dk_1_expand_133 0 rfl rfl (pc' := 134) rfl ?_
          refine v_iconst (v := 0) g dk_1_expand_134 (by decide) (pc' := 135) rfl ?_
          refine pfM_X_213 g hK dk_1_expand_135 (pc' := 138) rfl ?_
          refine v_bipush (v := (-2)) g dk_1_expand_138 (by decide) (pc' := 140) rfl ?_
          exact v_iret g hr hlk hK  (Option.some.inj hf) dk_1_expand_140
      · replace hf := ifF hc hf
        refine v_iconst (v := 1) g dk_1_expand_45 (by decide) (pc' := 46) rfl ?_
        refine v_goto (tgt := 50) g dk_1_expand_46 (by decide) ?_
        refine v_istore_n (lv' := [(3, .int 1), (0, .ref (ad 0)), (1, .int x1), (2, .int x2)]) g dk_1_expand_50 rfl (by decide) rfl (pc' := 51) rfl ?_
        refine v_iconst (v := 0) g dk_1_expand_51 (by decide) (pc' := 52) rfl ?_
        refine v_istore (lv' := [(4, .int 0), (3, .int 1), (0, .ref (ad 0)), (1, .int x1), (2, .int x2)]) g dk_1_expand_52 (by decide) rfl (pc' := 54) rfl ?_
        refine v_sub [2, 1, 0] rfl ?_
        obtain ⟨y14, hL, hf⟩ := bnd hf
        refine w_MX_expand_54 g hr hlk hK hA 100 q4.2 1 0 _ hL ?_
        refine v_iload_n g dk_1_expand_129 1 rfl rfl (pc' := 130) rfl ?_
        refine v_if_ne (tgt := 141) (pc' := 133) g dk_1_expand_130 (by decide) rfl (fun hc => ?_) (fun hc => ?_)
        · replace hf := ifF hc hf
          refine v_aload_n g dk_1_expand_141 0 rfl rfl (pc' := 142) rfl ?_
          obtain ⟨q15, hq, hf⟩ := bnd hf
          refine v_callV_v (As := []) (rest := []) (S1 := q15) g hK hA (c_MX_leaveOut hq) (kcM_X_230 g.2.2.2.2 rfl rfl (Nat.le_of_ble_eq_true rfl) (Nat.le_of_ble_eq_true rfl)) (ci := 1) (q0 := 0) rfl rfl rfl rfl rfl (Nat.le_of_ble_eq_true rfl) dk_1_expand_142 (Nat.zero_le _) (Nat.zero_le _) (pc' := 145) rfl ?_
          refine v_aload_n g dk_1_expand_145 0 rfl rfl (pc' := 146) rfl ?_
          refine gfM_X_213 g hK dk_1_expand_146 (pc' := 149) rfl ?_
          exact v_iret g hr hlk hK  (Option.some.inj hf) dk_1_expand_149
        · replace hf := ifT hc hf
          refine v_aload_n g dk_1_expand_133 0 rfl rfl (pc' := 134) rfl ?_
          refine v_iconst (v := 0) g dk_1_expand_134 (by decide) (pc' := 135) rfl ?_
          refine pfM_X_213 g hK dk_1_expand_135 (pc' := 138) rfl ?_
          refine v_bipush (v := (-2)) g dk_1_expand_138 (by decide) (pc' := 140) rfl ?_
          exact v_iret g hr hlk hK  (Option.some.inj hf) dk_1_expand_140
    · replace hf := ifT hc hf
      refine v_iconst (v := (-1)) g dk_1_expand_22 (by decide) (pc' := 23) rfl ?_
      exact v_iret g hr hlk hK  (Option.some.inj hf) dk_1_expand_23
abbrev rm_MX_pair : Room := { frames := 1, cells := 0, slots := 0, locals := 21 }
def m_MX_pair (S : StM) (x1 : Int32) (x2 : Int32) : Option Int32 :=
  (m_MX_in S x1 (gI S 15)).bind fun q1 =>
    if q1 = 0 then some (-1)
    else if x2 = 0 then if inb x1 61 = true then some (gA S 24 x1.toNatClampNeg) else none
    else if x2 = 1 then if inb x1 61 = true then some (gA S 25 x1.toNatClampNeg) else none
    else if x2 = 2 then if inb x1 61 = true then some (gA S 26 x1.toNatClampNeg) else none
    else some (-1)
set_option maxHeartbeats 4000000 in
set_option maxRecDepth 100000 in
theorem c_MX_pair {l : Launch} {D : va_G} {ad : Nat → Nat} {ca : Nat → ClassId} {S : StM} {x1 : Int32} {x2 : Int32} {r : Int32} (hf : m_MX_pair S x1 x2 = some r) : KIM l D ad ca yk_1_pair (.code yk_1_pair bk_1_pair 3 (some .int) :: tb) rm_MX_pair [.ref (ad 0), .int x1, .int x2] S (r, S) := by
  refine met_i (by decide) (Nat.le_of_ble_eq_true rfl) (fun p e s m below meth c A g hr hlk hK hA => ?_)
  replace g : CallFix p m c bk_1_pair 3 s _ tb Rk_1 := g
  refine v_lv (lv' := [(0, .ref (ad 0)), (1, .int x1), (2, .int x2)]) rfl ?_
  unfold m_MX_pair at hf
  refine v_iload_n g dk_1_pair_0 1 rfl rfl (pc' := 1) rfl ?_
  refine v_aload_n g dk_1_pair_1 0 rfl rfl (pc' := 2) rfl ?_
  refine gfM_X_213 g hK dk_1_pair_2 (pc' := 5) rfl ?_
  obtain ⟨q1, hq, hf⟩ := bnd hf
  refine v_callS_i (As := [.int x1, .int (gI S 15)]) (rest := []) (r := q1) (S1 := S) g hK hA (c_MX_in hq) (kcM_X_102 g.2.2.2.2 rfl rfl (Nat.le_of_ble_eq_true rfl) (Nat.le_of_ble_eq_true rfl)) rfl rfl (Nat.le_of_ble_eq_true rfl) dk_1_pair_5 (Nat.zero_le _) (Nat.zero_le _) (pc' := 8) rfl ?_
  refine v_if_ne (tgt := 13) (pc' := 11) g dk_1_pair_8 (by decide) rfl (fun hc => ?_) (fun hc => ?_)
  · replace hf := ifF hc hf
    refine v_iload_n g dk_1_pair_13 2 rfl rfl (pc' := 14) rfl ?_
    refine v_if_ne (tgt := 26) (pc' := 17) g dk_1_pair_14 (by decide) rfl (fun hc => ?_) (fun hc => ?_)
    · replace hf := ifF hc hf
      refine v_iload_n g dk_1_pair_26 2 rfl rfl (pc' := 27) rfl ?_
      refine v_iconst (v := 1) g dk_1_pair_27 (by decide) (pc' := 28) rfl ?_
      refine v_icmp_ne (tgt := 40) (pc' := 31) g dk_1_pair_28 (by decide) rfl (fun hc => ?_) (fun hc => ?_)
      · replace hf := ifF hc hf
        refine v_iload_n g dk_1_pair_40 2 rfl rfl (pc' := 41) rfl ?_
        refine v_iconst (v := 2) g dk_1_pair_41 (by decide) (pc' := 42) rfl ?_
        refine v_icmp_ne (tgt := 54) (pc' := 45) g dk_1_pair_42 (by decide) rfl (fun hc => ?_) (fun hc => ?_)
        · replace hf := ifF hc hf
          refine v_iconst (v := (-1)) g dk_1_pair_54 (by decide) (pc' := 55) rfl ?_
          exact v_iret g hr hlk hK  (pinj hf) dk_1_pair_55
        · replace hf := ifT hc hf
          refine v_aload_n g dk_1_pair_45 0 rfl rfl (pc' := 46) rfl ?_
          refine gfM_X_93 g hK dk_1_pair_46 (pc' := 49) rfl ?_
          refine v_iload_n g dk_1_pair_49 1 rfl rfl (pc' := 50) rfl ?_
          obtain ⟨hb2, hf⟩ := grd hf
          refine alM_27 g hK hb2 dk_1_pair_50 (pc' := 51) rfl ?_
          refine v_goto (tgt := 55) g dk_1_pair_51 (by decide) ?_
          exact v_iret g hr hlk hK  (pinj hf) dk_1_pair_55
      · replace hf := ifT hc hf
        refine v_aload_n g dk_1_pair_31 0 rfl rfl (pc' := 32) rfl ?_
        refine gfM_X_90 g hK dk_1_pair_32 (pc' := 35) rfl ?_
        refine v_iload_n g dk_1_pair_35 1 rfl rfl (pc' := 36) rfl ?_
        obtain ⟨hb3, hf⟩ := grd hf
        refine alM_26 g hK hb3 dk_1_pair_36 (pc' := 37) rfl ?_
        refine v_goto (tgt := 55) g dk_1_pair_37 (by decide) ?_
        exact v_iret g hr hlk hK  (pinj hf) dk_1_pair_55
    · replace hf := ifT hc hf
      refine v_aload_n g dk_1_pair_17 0 rfl rfl (pc' := 18) rfl ?_
      refine gfM_X_87 g hK dk_1_pair_18 (pc' := 21) rfl ?_
      refine v_iload_n g dk_1_pair_21 1 rfl rfl (pc' := 22) rfl ?_
      obtain ⟨hb4, hf⟩ := grd hf
      refine alM_25 g hK hb4 dk_1_pair_22 (pc' := 23) rfl ?_
      refine v_goto (tgt := 55) g dk_1_pair_23 (by decide) ?_
      exact v_iret g hr hlk hK  (pinj hf) dk_1_pair_55
  · replace hf := ifT hc hf
    refine v_iconst (v := (-1)) g dk_1_pair_11 (by decide) (pc' := 12) rfl ?_
    exact v_iret g hr hlk hK  (pinj hf) dk_1_pair_12
