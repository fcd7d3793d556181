abbrev rm_MX_has : Room := { frames := 1, cells := 0, slots := 0, locals := 21 }
def L_MX_has_41 (S : StM) (x1 : Int32) (x2 : Int32) (x3 : Int32) : Nat → Int32 → Int32 → Option (Int32)
  | 0, _, _ => none
  | n + 1, x4, x5 =>
    if (gI S 2) ≤ x5 then some x4
    else if x4 = 0 then some x4
    else if inb x5 61 = true then if (gA S 4 x5.toNatClampNeg) = x1 then L_MX_has_41 S x1 x2 x3 n 0 (x5 + 1)
    else L_MX_has_41 S x1 x2 x3 n 1 (x5 + 1) else none
set_option maxHeartbeats 4000000 in
set_option maxRecDepth 100000 in
theorem w_MX_has_41 {p : Program} {l : Launch} {e : Env} {s : State} {m : MethodId} {args : Array Value} {below : List Frame} {meth : Method} {c : Code} {A : Nat → Prop} {D : va_G} {ad : Nat → Nat} {ca : Nat → ClassId} {Rm : Int32 × StM} {S : StM} {x1 : Int32} {x2 : Int32} {x3 : Int32} (g : CallFix p m c bk_1_has 6 s args tb Rk_1) (hr : meth.sig.returnType = some .boolean) (hlk : meth.locks = false) (hK : va_K D vwCl (tyM ca) s) (hA : ∀ q, s.heap.size ≤ q → A q) : ∀ (n : Nat) (x4 : Int32) (x5 : Int32) (o : Int32), L_MX_has_41 S x1 x2 x3 n x4 x5 = some o → (Vj p l e rm_MX_has s m args below meth c (MQ below (qI D vwCl (tyM ca) (wdM ad ca) A Rm) args s 0 0 A) D vwCl A 6 0 0 (wdM ad ca S) 79 [(0, .ref (ad 0)), (1, .int x1), (2, .int x2), (3, .int x3), (4, .int o)] []) → Vj p l e rm_MX_has s m args below meth c (MQ below (qI D vwCl (tyM ca) (wdM ad ca) A Rm) args s 0 0 A) D vwCl A 6 0 0 (wdM ad ca S) 41 [(0, .ref (ad 0)), (1, .int x1), (2, .int x2), (3, .int x3), (4, .int x4), (5, .int x5)] [] := by
  intro n
  induction n with
  | zero => intro x4 x5 o hf; exact nomatch (show none = some o from hf)
  | succ n ih =>
    intro x4 x5 o hf hx
    rw [L_MX_has_41] at hf
    refine v_iload g dk_1_has_41 5 rfl (pc' := 43) rfl ?_
    refine v_aload_n g dk_1_has_43 0 rfl rfl (pc' := 44) rfl ?_
    refine gfM_X_113 g hK dk_1_has_44 (pc' := 47) rfl ?_
    refine v_icmp_ge (tgt := 79) (pc' := 50) g dk_1_has_47 (by decide) rfl (fun hc => ?_) (fun hc => ?_)
    · replace hf := ifT hc hf
      refine v_sub [0, 1, 2, 3, 4] rfl ?_
      have e9 := Option.some.inj hf
      subst e9
      exact hx
    · replace hf := ifF hc hf
      refine v_iload g dk_1_has_50 4 rfl (pc' := 52) rfl ?_
      refine v_if_eq (tgt := 79) (pc' := 55) g dk_1_has_52 (by decide) rfl (fun hc => ?_) (fun hc => ?_)
      · replace hf := ifT hc hf
        refine v_sub [0, 1, 2, 3, 4] rfl ?_
        have e9 := Option.some.inj hf
        subst e9
        exact hx
      · replace hf := ifF hc hf
        refine v_aload_n g dk_1_has_55 0 rfl rfl (pc' := 56) rfl ?_
        refine gfM_X_22 g hK dk_1_has_56 (pc' := 59) rfl ?_
        refine v_iload g dk_1_has_59 5 rfl (pc' := 61) rfl ?_
        obtain ⟨hb2, hf⟩ := grd hf
        refine alM_5 g hK hb2 dk_1_has_61 (pc' := 62) rfl ?_
        refine v_iload_n g dk_1_has_62 1 rfl rfl (pc' := 63) rfl ?_
        refine v_icmp_eq (tgt := 70) (pc' := 66) g dk_1_has_63 (by decide) rfl (fun hc => ?_) (fun hc => ?_)
        · replace hf := ifT hc hf
          refine v_iconst (v := 0) g dk_1_has_70 (by decide) (pc' := 71) rfl ?_
          refine v_istore (lv' := [(4, .int 0), (0, .ref (ad 0)), (1, .int x1), (2, .int x2), (3, .int x3), (5, .int x5)]) g dk_1_has_71 (by decide) rfl (pc' := 73) rfl ?_
          refine v_iinc (j := 5) (v := x5 + 1) (lv' := [(5, .int (x5 + 1)), (4, .int 0), (0, .ref (ad 0)), (1, .int x1), (2, .int x2), (3, .int x3)]) g dk_1_has_73 rfl rfl (by decide) rfl (pc' := 76) rfl ?_
          refine v_goto (tgt := 41) g dk_1_has_76 (by decide) ?_
          refine v_sub [2, 3, 4, 5, 1, 0] rfl ?_
          exact ih 0 (x5 + 1) o hf hx
        · replace hf := ifF hc hf
          refine v_iconst (v := 1) g dk_1_has_66 (by decide) (pc' := 67) rfl ?_
          refine v_goto (tgt := 71) g dk_1_has_67 (by decide) ?_
          refine v_istore (lv' := [(4, .int 1), (0, .ref (ad 0)), (1, .int x1), (2, .int x2), (3, .int x3), (5, .int x5)]) g dk_1_has_71 (by decide) rfl (pc' := 73) rfl ?_
          refine v_iinc (j := 5) (v := x5 + 1) (lv' := [(5, .int (x5 + 1)), (4, .int 1), (0, .ref (ad 0)), (1, .int x1), (2, .int x2), (3, .int x3)]) g dk_1_has_73 rfl rfl (by decide) rfl (pc' := 76) rfl ?_
          refine v_goto (tgt := 41) g dk_1_has_76 (by decide) ?_
          refine v_sub [2, 3, 4, 5, 1, 0] rfl ?_
          exact ih 1 (x5 + 1) o hf hx
def m_MX_has (S : StM) (x1 : Int32) (x2 : Int32) (x3 : Int32) : Option (Int32 × StM) :=
  (m_MX_in S x1 (gI S 1)).bind fun q1 =>
    if q1 = 0 then (L_MX_has_41 S x1 x2 x3 100 0 0).bind fun y4 =>
    if y4 = 0 then if isB y4 = true then some (y4, S) else none
    else if inb (((8 : Int32) * x1) + x2) 64 = true then if isB y4 = true then some (y4, tA S 3 (((8 : Int32) * x1) + x2) x3) else none else none
    else (m_MX_in S x2 8).bind fun q6 =>
    if q6 = 0 then (L_MX_has_41 S x1 x2 x3 100 0 0).bind fun y8 =>
    if y8 = 0 then if isB y8 = true then some (y8, S) else none
    else if inb (((8 : Int32) * x1) + x2) 64 = true then if isB y8 = true then some (y8, tA S 3 (((8 : Int32) * x1) + x2) x3) else none else none
    else if x3 < (-1) then (L_MX_has_41 S x1 x2 x3 100 0 0).bind fun y11 =>
    if y11 = 0 then if isB y11 = true then some (y11, S) else none
    else if inb (((8 : Int32) * x1) + x2) 64 = true then if isB y11 = true then some (y11, tA S 3 (((8 : Int32) * x1) + x2) x3) else none else none
    else if 8 ≤ x3 then (L_MX_has_41 S x1 x2 x3 100 0 0).bind fun y14 =>
    if y14 = 0 then if isB y14 = true then some (y14, S) else none
    else if inb (((8 : Int32) * x1) + x2) 64 = true then if isB y14 = true then some (y14, tA S 3 (((8 : Int32) * x1) + x2) x3) else none else none
    else (L_MX_has_41 S x1 x2 x3 100 1 0).bind fun y17 =>
    if y17 = 0 then if isB y17 = true then some (y17, S) else none
    else if inb (((8 : Int32) * x1) + x2) 64 = true then if isB y17 = true then some (y17, tA S 3 (((8 : Int32) * x1) + x2) x3) else none else none
set_option maxHeartbeats 4000000 in
set_option maxRecDepth 100000 in
theorem c_MX_has {l : Launch} {D : va_G} {ad : Nat → Nat} {ca : Nat → ClassId} {S : StM} {x1 : Int32} {x2 : Int32} {x3 : Int32} {r : Int32 × StM} (hf : m_MX_has S x1 x2 x3 = some r) : KIM l D ad ca yk_1_has (.code yk_1_has bk_1_has 6 (some .boolean) :: tb) rm_MX_has [.ref (ad 0), .int x1, .int x2, .int x3] S r := by
  refine met_z (by decide) (Nat.le_of_ble_eq_true rfl) (fun p e s m below meth c A g hr hlk hK hA => ?_)
  replace g : CallFix p m c bk_1_has 6 s _ tb Rk_1 := g
  refine v_lv (lv' := [(0, .ref (ad 0)), (1, .int x1), (2, .int x2), (3, .int x3)]) rfl ?_
  unfold m_MX_has at hf
  refine v_iload_n g dk_1_has_0 1 rfl rfl (pc' := 1) rfl ?_
  refine v_aload_n g dk_1_has_1 0 rfl rfl (pc' := 2) rfl ?_
  refine gfM_X_110 g hK dk_1_has_2 (pc' := 5) rfl ?_
  obtain ⟨q1, hq, hf⟩ := bnd hf
  refine v_callS_i (As := [.int x1, .int (gI S 1)]) (rest := []) (r := q1) (S1 := S) g hK hA (c_MX_in hq) (kcM_X_102 g.2.2.2.2 rfl rfl (Nat.le_of_ble_eq_true rfl) (Nat.le_of_ble_eq_true rfl)) rfl rfl (Nat.le_of_ble_eq_true rfl) dk_1_has_5 (Nat.zero_le _) (Nat.zero_le _) (pc' := 8) rfl ?_
  refine v_if_eq (tgt := 35) (pc' := 11) g dk_1_has_8 (by decide) rfl (fun hc => ?_) (fun hc => ?_)
  · replace hf := ifT hc hf
    refine v_iconst (v := 0) g dk_1_has_35 (by decide) (pc' := 36) rfl ?_
    refine v_istore (lv' := [(4, .int 0), (0, .ref (ad 0)), (1, .int x1), (2, .int x2), (3, .int x3)]) g dk_1_has_36 (by decide) rfl (pc' := 38) rfl ?_
    refine v_iconst (v := 0) g dk_1_has_38 (by decide) (pc' := 39) rfl ?_
    refine v_istore (lv' := [(5, .int 0), (4, .int 0), (0, .ref (ad 0)), (1, .int x1), (2, .int x2), (3, .int x3)]) g dk_1_has_39 (by decide) rfl (pc' := 41) rfl ?_
    refine v_sub [2, 3, 4, 5, 1, 0] rfl ?_
    obtain ⟨y4, hL, hf⟩ := bnd hf
    refine w_MX_has_41 g hr hlk hK hA 100 0 0 _ hL ?_
    refine v_iload g dk_1_has_79 4 rfl (pc' := 81) rfl ?_
    refine v_if_eq (tgt := 96) (pc' := 84) g dk_1_has_81 (by decide) rfl (fun hc => ?_) (fun hc => ?_)
    · replace hf := ifT hc hf
      refine v_iload g dk_1_has_96 4 rfl (pc' := 98) rfl ?_
      obtain ⟨hz, hf⟩ := grd hf
      exact v_zret g hr hlk hK hz (Option.some.inj hf) dk_1_has_98
    · replace hf := ifF hc hf
      refine v_aload_n g dk_1_has_84 0 rfl rfl (pc' := 85) rfl ?_
      refine gfM_X_19 g hK dk_1_has_85 (pc' := 88) rfl ?_
      refine v_bipush (v := 8) g dk_1_has_88 (by decide) (pc' := 90) rfl ?_
      refine v_iload_n g dk_1_has_90 1 rfl rfl (pc' := 91) rfl ?_
      refine v_imul g dk_1_has_91 (pc' := 92) rfl ?_
      refine v_iload_n g dk_1_has_92 2 rfl rfl (pc' := 93) rfl ?_
      refine v_iadd g dk_1_has_93 (pc' := 94) rfl ?_
      refine v_iload_n g dk_1_has_94 3 rfl rfl (pc' := 95) rfl ?_
      obtain ⟨hb5, hf⟩ := grd hf
      refine asM_4 g hK hb5 dk_1_has_95 (pc' := 96) rfl ?_
      refine v_iload g dk_1_has_96 4 rfl (pc' := 98) rfl ?_
      obtain ⟨hz, hf⟩ := grd hf
      exact v_zret g hr hlk hK hz (Option.some.inj hf) dk_1_has_98
  · replace hf := ifF hc hf
    refine v_iload_n g dk_1_has_11 2 rfl rfl (pc' := 12) rfl ?_
    refine v_bipush (v := 8) g dk_1_has_12 (by decide) (pc' := 14) rfl ?_
    obtain ⟨q6, hq, hf⟩ := bnd hf
    refine v_callS_i (As := [.int x2, .int 8]) (rest := []) (r := q6) (S1 := S) g hK hA (c_MX_in hq) (kcM_X_102 g.2.2.2.2 rfl rfl (Nat.le_of_ble_eq_true rfl) (Nat.le_of_ble_eq_true rfl)) rfl rfl (Nat.le_of_ble_eq_true rfl) dk_1_has_14 (Nat.zero_le _) (Nat.zero_le _) (pc' := 17) rfl ?_
    refine v_if_eq (tgt := 35) (pc' := 20) g dk_1_has_17 (by decide) rfl (fun hc => ?_) (fun hc => ?_)
    · replace hf := ifT hc hf
      refine v_iconst (v := 0) g dk_1_has_35 (by decide) (pc' := 36) rfl ?_
      refine v_istore (lv' := [(4, .int 0), (0, .ref (ad 0)), (1, .int x1), (2, .int x2), (3, .int x3)]) g dk_1_has_36 (by decide) rfl (pc' := 38) rfl ?_
      refine v_iconst (v := 0) g dk_1_has_38 (by decide) (pc' := 39) rfl ?_
      refine v_istore (lv' := [(5, .int 0), (4, .int 0), (0, .ref (ad 0)), (1, .int x1), (2, .int x2), (3, .int x3)]) g dk_1_has_39 (by decide) rfl (pc' := 41) rfl ?_
      refine v_sub [2, 3, 4, 5, 1, 0] rfl ?_
      obtain ⟨y8, hL, hf⟩ := bnd hf
      refine w_MX_has_41 g hr hlk hK hA 100 0 0 _ hL ?_
      refine v_iload g dk_1_has_79 4 rfl (pc' := 81) rfl ?_
      refine v_if_eq (tgt := 96) (pc' := 84) g dk_1_has_81 (by decide) rfl (fun hc => ?_) (fun hc => ?_)
      · replace hf := ifT hc hf
        refine v_iload g dk_1_has_96 4 rfl (pc' := 98) rfl ?_
        obtain ⟨hz, hf⟩ := grd hf
        exact v_zret g hr hlk hK hz (Option.some.inj hf) dk_1_has_98
      · replace hf := ifF hc hf
        refine v_aload_n g dk_1_has_84 0 rfl rfl (pc' := 85) rfl ?_
        refine gfM_X_19 g hK dk_1_has_85 (pc' := 88) rfl ?_
        refine v_bipush (v := 8) g dk_1_has_88 (by decide) (pc' := 90) rfl ?_
        refine v_iload_n g dk_1_has_90 1 rfl rfl (pc' := 91) rfl ?_
        refine v_imul g dk_1_has_91 (pc' := 92) rfl ?_
        refine v_iload_n g dk_1_has_92 2 rfl rfl (pc' := 93) rfl ?_
        refine v_iadd g dk_1_has_93 (pc' := 94) rfl ?_
        refine v_iload_n g dk_1_has_94 3 rfl rfl (pc' := 95) rfl ?_
        obtain ⟨hb9, hf⟩ := grd hf
        refine asM_4 g hK hb9 dk_1_has_95 (pc' := 96) rfl ?_
        refine v_iload g dk_1_has_96 4 rfl (pc' := 98) rfl ?_
        obtain ⟨hz, hf⟩ := grd hf
        exact v_zret g hr hlk hK hz (Option.some.inj hf) dk_1_has_98
    · replace hf := ifF hc hf
      refine v_iload_n g dk_1_has_20 3 rfl rfl (pc' := 21) rfl ?_
      refine v_iconst (v := (-1)) g dk_1_has_21 (by decide) (pc' := 22) rfl ?_
      refine v_icmp_lt (tgt := 35) (pc' := 25) g dk_1_has_22 (by decide) rfl (fun hc => ?_) (fun hc => ?_)
      · replace hf := ifT hc hf
        refine v_iconst (v := 0) g dk_1_has_35 (by decide) (pc' := 36) rfl ?_
        refine v_istore (lv' := [(4, .int 0), (0, .ref (ad 0)), (1, .int x1), (2, .int x2), (3, .int x3)]) g dk_1_has_36 (by decide) rfl (pc' := 38) rfl ?_
        refine v_iconst (v := 0) g dk_1_has_38 (by decide) (pc' := 39) rfl ?_
        refine v_istore (lv' := [(5, .int 0), (4, .int 0), (0, .ref (ad 0)), (1, .int x1), (2, .int x2), (3, .int x3)]) g dk_1_has_39 (by decide) rfl (pc' := 41) rfl ?_
        refine v_sub [2, 3, 4, 5, 1, 0] rfl ?_
        obtain ⟨y11, hL, hf⟩ := bnd hf
        refine w_MX_has_41 g hr hlk hK hA 100 0 0 _ hL ?_
        refine v_iload g dk_1_has_79 4 rfl (pc' := 81) rfl ?_
        refine v_if_eq (tgt := 96) (pc' := 84) g dk_1_has_81 (by decide) rfl (fun hc => ?_) (fun hc => ?_)
        · replace hf := ifT hc hf
          refine v_iload g dk_1_has_96 4 rfl (pc' := 98) rfl ?_
          obtain ⟨hz, hf⟩ := grd hf
          exact v_zret g hr hlk hK hz (Option.some.inj hf) dk_1_has_98
        · replace hf := ifF hc hf
          refine v_aload_n g dk_1_has_84 0 rfl rfl (pc' := 85) rfl ?_
          refine gfM_X_19 g hK dk_1_has_85 (pc' := 88) rfl ?_
          refine v_bipush (v := 8) g dk_1_has_88 (by decide) (pc' := 90) rfl ?_
          refine v_iload_n g dk_1_has_90 1 rfl rfl (pc' := 91) rfl ?_
          refine v_imul g dk_1_has_91 (pc' := 92) rfl ?_
          refine v_iload_n g dk_1_has_92 2 rfl rfl (pc' := 93) rfl ?_
          refine v_iadd g dk_1_has_93 (pc' := 94) rfl ?_
          refine v_iload_n g dk_1_has_94 3 rfl rfl (pc' := 95) rfl ?_
          obtain ⟨hb12, hf⟩ := grd hf
          refine asM_4 g hK hb12 dk_1_has_95 (pc' := 96) rfl ?_
          refine v_iload g dk_1_has_96 4 rfl (pc' := 98) rfl ?_
          obtain ⟨hz, hf⟩ := grd hf
          exact v_zret g hr hlk hK hz (Option.some.inj hf) dk_1_has_98
      · replace hf := ifF hc hf
        refine v_iload_n g dk_1_has_25 3 rfl rfl (pc' := 26) rfl ?_
        refine v_bipush (v := 8) g dk_1_has_26 (by decide) (pc' := 28) rfl ?_
        refine v_icmp_ge (tgt := 35) (pc' := 31) g dk_1_has_28 (by decide) rfl (fun hc => ?_) (fun hc => ?_)
        · replace hf := ifT hc hf
          refine v_iconst (v := 0) g dk_1_has_35 (by decide) (pc' := 36) rfl ?_
          refine v_istore (lv' := [(4, .int 0), (0, .ref (ad 0)), (1, .int x1), (2, .int x2), (3, .int x3)]) g dk_1_has_36 (by decide) rfl (pc' := 38) rfl ?_
          refine v_iconst (v := 0) g dk_1_has_38 (by decide) (pc' := 39) rfl ?_
          refine v_istore (lv' := [(5, .int 0), (4, .int 0), (0, .ref (ad 0)), (1, .int x1), (2, .int x2), (3, .int x3)]) g dk_1_has_39 (by decide) rfl (pc' := 41) rfl ?_
          refine v_sub [2, 3, 4, 5, 1, 0] rfl ?_
          obtain ⟨y14, hL, hf⟩ := bnd hf
          refine w_MX_has_41 g hr hlk hK hA 100 0 0 _ hL ?_
          refine v_iload g dk_1_has_79 4 rfl (pc' := 81) rfl ?_
          refine v_if_eq (tgt := 96) (pc' := 84) g dk_1_has_81 (by decide) rfl (fun hc => ?_) (fun hc => ?_)
          · replace hf := ifT hc hf
            refine v_iload g dk_1_has_96 4 rfl (pc' := 98) rfl ?_
            obtain ⟨hz, hf⟩ := grd hf
            exact v_zret g hr hlk hK hz (Option.some.inj hf) dk_1_has_98
          · replace hf := ifF hc hf
            refine v_aload_n g dk_1_has_84 0 rfl rfl (pc' := 85) rfl ?_
            refine gfM_X_19 g hK dk_1_has_85 (pc' := 88) rfl ?_
            refine v_bipush (v := 8) g dk_1_has_88 (by decide) (pc' := 90) rfl ?_
            refine v_iload_n g dk_1_has_90 1 rfl rfl (pc' := 91) rfl ?_
            refine v_imul g dk_1_has_91 (pc' := 92) rfl ?_
            refine v_iload_n g dk_1_has_92 2 rfl rfl (pc' := 93) rfl ?_
            refine v_iadd g dk_1_has_93 (pc' := 94) rfl ?_
            refine v_iload_n g dk_1_has_94 3 rfl rfl (pc' := 95) rfl ?_
            obtain ⟨hb15, hf⟩ := grd hf
            refine asM_4 g hK hb15 dk_1_has_95 (pc' := 96) rfl ?_
            refine v_iload g dk_1_has_96 4 rfl (pc' := 98) rfl ?_
            obtain ⟨hz, hf⟩ := grd hf
            exact v_zret g hr hlk hK hz (Option.some.inj hf) dk_1_has_98
        · replace hf := ifF hc hf
          refine v_iconst (v := 1) g dk_1_has_31 (by decide) (pc' := 32) rfl ?_
          refine v_goto (tgt := 36) g dk_1_has_32 (by decide) ?_
          refine v_istore (lv' := [(4, .int 1), (0, .ref (ad 0)), (1, .int x1), (2, .int x2), (3, .int x3)]) g dk_1_has_36 (by decide) rfl (pc' := 38) rfl ?_
          refine v_iconst (v := 0) g dk_1_has_38 (by decide) (pc' := 39) rfl ?_
          refine v_istore (lv' := [(5, .int 0), (4, .int 1), (0, .ref (ad 0)), (1, .int x1), (2, .int x2), (3, .int x3)]) g dk_1_has_39 (by decide) rfl (pc' := 41) rfl ?_
          refine v_sub [2, 3, 4, 5, 1, 0] rfl ?_
          obtain ⟨y17, hL, hf⟩ := bnd hf
          refine w_MX_has_41 g hr hlk hK hA 100 1 0 _ hL ?_
          refine v_iload g dk_1_has_79 4 rfl (pc' := 81) rfl ?_
          refine v_if_eq (tgt := 96) (pc' := 84) g dk_1_has_81 (by decide) rfl (fun hc => ?_) (fun hc => ?_)
          · replace hf := ifT hc hf
            refine v_iload g dk_1_has_96 4 rfl (pc' := 98) rfl ?_
            obtain ⟨hz, hf⟩ := grd hf
            exact v_zret g hr hlk hK hz (Option.some.inj hf) dk_1_has_98
          · replace hf := ifF hc hf
            refine v_aload_n g dk_1_has_84 0 rfl rfl (pc' := 85) rfl ?_
            refine gfM_X_19 g hK dk_1_has_85 (pc' := 88) rfl ?_
            refine v_bipush (v := 8) g dk_1_has_88 (by decide) (pc' := 90) rfl ?_
            refine v_iload_n g dk_1_has_90 1 rfl rfl (pc' := 91) rfl ?_
            refine v_imul g dk_1_has_91 (pc' := 92) rfl ?_
            refine v_iload_n g dk_1_has_92 2 rfl rfl (pc' := 93) rfl ?_
            refine v_iadd g dk_1_has_93 (pc' := 94) rfl ?_
            refine v_iload_n g dk_1_has_94 3 rfl rfl (pc' := 95) rfl ?_
            obtain ⟨hb18, hf⟩ := grd hf
            refine asM_4 g hK hb18 dk_1_has_95 (pc' := 96) rfl ?_
            refine v_iload g dk_1_has_96 4 rfl (pc' := 98) rfl ?_
            obtain ⟨hz, hf⟩ := grd hf
            exact v_zret g hr hlk hK hz (Option.some.inj hf) dk_1_has_98
abbrev rm_MX_condition : Room := { frames := 0, cells := 0, slots := 0, locals := 0 }
def m_MX_condition (S : StM) : Option (Int32 × StM) :=
  if (gI S 3) = 40 then some ((-1), S)
    else some (((gI S 3) + (1 : Int32)) - (1 : Int32), sI S 3 ((gI S 3) + (1 : Int32)))
set_option maxHeartbeats 4000000 in
set_option maxRecDepth 100000 in
theorem c_MX_condition {l : Launch} {D : va_G} {ad : Nat → Nat} {ca : Nat → ClassId} {S : StM} {r : Int32 × StM} (hf : m_MX_condition S = some r) : KIM l D ad ca yk_1_condition (.code yk_1_condition bk_1_condition 1 (some .int) :: tb) rm_MX_condition [.ref (ad 0)] S r := by
  refine met_i (by decide) (Nat.le_of_ble_eq_true rfl) (fun p e s m below meth c A g hr hlk hK hA => ?_)
  replace g : CallFix p m c bk_1_condition 1 s _ tb Rk_1 := g
  refine v_lv (lv' := [(0, .ref (ad 0))]) rfl ?_
  unfold m_MX_condition at hf
  refine v_aload_n g dk_1_condition_0 0 rfl rfl (pc' := 1) rfl ?_
  refine gfM_X_116 g hK dk_1_condition_1 (pc' := 4) rfl ?_
  refine v_bipush (v := 40) g dk_1_condition_4 (by decide) (pc' := 6) rfl ?_
  refine v_icmp_ne (tgt := 11) (pc' := 9) g dk_1_condition_6 (by decide) rfl (fun hc => ?_) (fun hc => ?_)
  · replace hf := ifF hc hf
    refine v_aload_n g dk_1_condition_11 0 rfl rfl (pc' := 12) rfl ?_
    refine v_dup g dk_1_condition_12 rfl (pc' := 13) rfl ?_
    refine gfM_X_116 g hK dk_1_condition_13 (pc' := 16) rfl ?_
    refine v_iconst (v := 1) g dk_1_condition_16 (by decide) (pc' := 17) rfl ?_
    refine v_iadd g dk_1_condition_17 (pc' := 18) rfl ?_
    refine pfM_X_116 g hK dk_1_condition_18 (pc' := 21) rfl ?_
    refine v_aload_n g dk_1_condition_21 0 rfl rfl (pc' := 22) rfl ?_
    refine gfM_X_116 g hK dk_1_condition_22 (pc' := 25) rfl ?_
    refine v_iconst (v := 1) g dk_1_condition_25 (by decide) (pc' := 26) rfl ?_
    refine v_isub g dk_1_condition_26 (pc' := 27) rfl ?_
    exact v_iret g hr hlk hK  (Option.some.inj hf) dk_1_condition_27
  · replace hf := ifT hc hf
    refine v_iconst (v := (-1)) g dk_1_condition_9 (by decide) (pc' := 10) rfl ?_
    exact v_iret g hr hlk hK  (Option.some.inj hf) dk_1_condition_10
abbrev rm_MX_isUsed : Room := { frames := 0, cells := 0, slots := 0, locals := 0 }
def L_MX_isUsed_23 (S : StM) (x1 : Int32) (x3 : Int32) : Nat → Int32 → Int32 → Option (Int32)
  | 0, _, _ => none
  | n + 1, x2, x4 =>
    if inb x3 24 = true then if (((8 : Int32) * x3) + (gA S 11 x3.toNatClampNeg)) ≤ x4 then some x2
    else if x2 = 0 then if inb x4 192 = true then if (gA S 12 x4.toNatClampNeg) = x1 then L_MX_isUsed_23 S x1 x3 n 1 (x4 + 1)
    else L_MX_isUsed_23 S x1 x3 n 0 (x4 + 1) else none
    else L_MX_isUsed_23 S x1 x3 n 1 (x4 + 1) else none
set_option maxHeartbeats 4000000 in
set_option maxRecDepth 100000 in
theorem w_MX_isUsed_23 {p : Program} {l : Launch} {e : Env} {s : State} {m : MethodId} {args : Array Value} {below : List Frame} {meth : Method} {c : Code} {A : Nat → Prop} {D : va_G} {ad : Nat → Nat} {ca : Nat → ClassId} {Rm : Int32 × StM} {S : StM} {x1 : Int32} {x3 : Int32} (g : CallFix p m c bk_1_isUsed 5 s args tb Rk_1) (hr : meth.sig.returnType = some .boolean) (hlk : meth.locks = false) (hK : va_K D vwCl (tyM ca) s) (hA : ∀ q, s.heap.size ≤ q → A q) : ∀ (n : Nat) (x2 : Int32) (x4 : Int32) (o : Int32), L_MX_isUsed_23 S x1 x3 n x2 x4 = some o → (Vj p l e rm_MX_isUsed s m args below meth c (MQ below (qI D vwCl (tyM ca) (wdM ad ca) A Rm) args s 0 0 A) D vwCl A 5 0 0 (wdM ad ca S) 66 [(0, .ref (ad 0)), (1, .int x1), (2, .int o), (3, .int x3)] []) → Vj p l e rm_MX_isUsed s m args below meth c (MQ below (qI D vwCl (tyM ca) (wdM ad ca) A Rm) args s 0 0 A) D vwCl A 5 0 0 (wdM ad ca S) 23 [(0, .ref (ad 0)), (1, .int x1), (2, .int x2), (3, .int x3), (4, .int x4)] [] := by
  intro n
  induction n with
  | zero => intro x2 x4 o hf; exact nomatch (show none = some o from hf)
  | succ n ih =>
    intro x2 x4 o hf hx
    rw [L_MX_isUsed_23] at hf
    refine v_iload g dk_1_isUsed_23 4 rfl (pc' := 25) rfl ?_
    refine v_bipush (v := 8) g dk_1_isUsed_25 (by decide) (pc' := 27) rfl ?_
    refine v_iload_n g dk_1_isUsed_27 3 rfl rfl (pc' := 28) rfl ?_
    refine v_imul g dk_1_isUsed_28 (pc' := 29) rfl ?_
    refine v_aload_n g dk_1_isUsed_29 0 rfl rfl (pc' := 30) rfl ?_
    refine gfM_X_44 g hK dk_1_isUsed_30 (pc' := 33) rfl ?_
    refine v_iload_n g dk_1_isUsed_33 3 rfl rfl (pc' := 34) rfl ?_
    obtain ⟨hb2, hf⟩ := grd hf
    refine alM_12 g hK hb2 dk_1_isUsed_34 (pc' := 35) rfl ?_
    refine v_iadd g dk_1_isUsed_35 (pc' := 36) rfl ?_
    refine v_icmp_ge (tgt := 66) (pc' := 39) g dk_1_isUsed_36 (by decide) rfl (fun hc => ?_) (fun hc => ?_)
    · replace hf := ifT hc hf
      refine v_sub [0, 1, 2, 3] rfl ?_
      have e9 := Option.some.inj hf
      subst e9
      exact hx
    · replace hf := ifF hc hf
      refine v_iload_n g dk_1_isUsed_39 2 rfl rfl (pc' := 40) rfl ?_
      refine v_if_ne (tgt := 54) (pc' := 43) g dk_1_isUsed_40 (by decide) rfl (fun hc => ?_) (fun hc => ?_)
      · replace hf := ifF hc hf
        refine v_iconst (v := 1) g dk_1_isUsed_54 (by decide) (pc' := 55) rfl ?_
        refine v_goto (tgt := 59) g dk_1_isUsed_55 (by decide) ?_
        refine v_istore_n (lv' := [(2, .int 1), (0, .ref (ad 0)), (1, .int x1), (3, .int x3), (4, .int x4)]) g dk_1_isUsed_59 rfl (by decide) rfl (pc' := 60) rfl ?_
        refine v_iinc (j := 4) (v := x4 + 1) (lv' := [(4, .int (x4 + 1)), (2, .int 1), (0, .ref (ad 0)), (1, .int x1), (3, .int x3)]) g dk_1_isUsed_60 rfl rfl (by decide) rfl (pc' := 63) rfl ?_
        refine v_goto (tgt := 23) g dk_1_isUsed_63 (by decide) ?_
        refine v_sub [2, 3, 1, 4, 0] rfl ?_
        exact ih 1 (x4 + 1) o hf hx
      · replace hf := ifT hc hf
        refine v_aload_n g dk_1_isUsed_43 0 rfl rfl (pc' := 44) rfl ?_
        refine gfM_X_47 g hK dk_1_isUsed_44 (pc' := 47) rfl ?_
        refine v_iload g dk_1_isUsed_47 4 rfl (pc' := 49) rfl ?_
        obtain ⟨hb3, hf⟩ := grd hf
        refine alM_13 g hK hb3 dk_1_isUsed_49 (pc' := 50) rfl ?_
        refine v_iload_n g dk_1_isUsed_50 1 rfl rfl (pc' := 51) rfl ?_
        refine v_icmp_ne (tgt := 58) (pc' := 54) g dk_1_isUsed_51 (by decide) rfl (fun hc => ?_) (fun hc => ?_)
        · replace hf := ifF hc hf
          refine v_iconst (v := 0) g dk_1_isUsed_58 (by decide) (pc' := 59) rfl ?_
          refine v_istore_n (lv' := [(2, .int 0), (0, .ref (ad 0)), (1, .int x1), (3, .int x3), (4, .int x4)]) g dk_1_isUsed_59 rfl (by decide) rfl (pc' := 60) rfl ?_
          refine v_iinc (j := 4) (v := x4 + 1) (lv' := [(4, .int (x4 + 1)), (2, .int 0), (0, .ref (ad 0)), (1, .int x1), (3, .int x3)]) g dk_1_isUsed_60 rfl rfl (by decide) rfl (pc' := 63) rfl ?_
          refine v_goto (tgt := 23) g dk_1_isUsed_63 (by decide) ?_
          refine v_sub [2, 3, 1, 4, 0] rfl ?_
          exact ih 0 (x4 + 1) o hf hx
        · replace hf := ifT hc hf
          refine v_iconst (v := 1) g dk_1_isUsed_54 (by decide) (pc' := 55) rfl ?_
          refine v_goto (tgt := 59) g dk_1_isUsed_55 (by decide) ?_
          refine v_istore_n (lv' := [(2, .int 1), (0, .ref (ad 0)), (1, .int x1), (3, .int x3), (4, .int x4)]) g dk_1_isUsed_59 rfl (by decide) rfl (pc' := 60) rfl ?_
          refine v_iinc (j := 4) (v := x4 + 1) (lv' := [(4, .int (x4 + 1)), (2, .int 1), (0, .ref (ad 0)), (1, .int x1), (3, .int x3)]) g dk_1_isUsed_60 rfl rfl (by decide) rfl (pc' := 63) rfl ?_
          refine v_goto (tgt := 23) g dk_1_isUsed_63 (by decide) ?_
          refine v_sub [2, 3, 1, 4, 0] rfl ?_
          exact ih 1 (x4 + 1) o hf hx
def L_MX_isUsed_9 (S : StM) (x1 : Int32) : Nat → Int32 → Int32 → Option (Int32)
  | 0, _, _ => none
  | n + 1, x2, x3 =>
    if (gI S 4) ≤ x3 then some x2
    else (L_MX_isUsed_23 S x1 x3 100 x2 ((8 : Int32) * x3)).bind fun y5 =>
    L_MX_isUsed_9 S x1 n y5 (x3 + 1)
set_option maxHeartbeats 4000000 in
set_option maxRecDepth 100000 in
theorem w_MX_isUsed_9 {p : Program} {l : Launch} {e : Env} {s : State} {m : MethodId} {args : Array Value} {below : List Frame} {meth : Method} {c : Code} {A : Nat → Prop} {D : va_G} {ad : Nat → Nat} {ca : Nat → ClassId} {Rm : Int32 × StM} {S : StM} {x1 : Int32} (g : CallFix p m c bk_1_isUsed 5 s args tb Rk_1) (hr : meth.sig.returnType = some .boolean) (hlk : meth.locks = false) (hK : va_K D vwCl (tyM ca) s) (hA : ∀ q, s.heap.size ≤ q → A q) : ∀ (n : Nat) (x2 : Int32) (x3 : Int32) (o : Int32), L_MX_isUsed_9 S x1 n x2 x3 = some o → (Vj p l e rm_MX_isUsed s m args below meth c (MQ below (qI D vwCl (tyM ca) (wdM ad ca) A Rm) args s 0 0 A) D vwCl A 5 0 0 (wdM ad ca S) 72 [(2, .int o)] []) → Vj p l e rm_MX_isUsed s m args below meth c (MQ below (qI D vwCl (tyM ca) (wdM ad ca) A Rm) args s 0 0 A) D vwCl A 5 0 0 (wdM ad ca S) 9 [(0, .ref (ad 0)), (1, .int x1), (2, .int x2), (3, .int x3)] [] := by
  intro n
  induction n with
  | zero => intro x2 x3 o hf; exact nomatch (show none = some o from hf)
  | succ n ih =>
    intro x2 x3 o hf hx
    rw [L_MX_isUsed_9] at hf
    refine v_iload_n g dk_1_isUsed_9 3 rfl rfl (pc' := 10) rfl ?_
    refine v_aload_n g dk_1_isUsed_10 0 rfl rfl (pc' := 11) rfl ?_
    refine gfM_X_119 g hK dk_1_isUsed_11 (pc' := 14) rfl ?_
    refine v_icmp_ge (tgt := 72) (pc' := 17) g dk_1_isUsed_14 (by decide) rfl (fun hc => ?_) (fun hc => ?_)
    · replace hf := ifT hc hf
      refine v_sub [2] rfl ?_
      have e9 := Option.some.inj hf
      subst e9
      exact hx
    · replace hf := ifF hc hf
      refine v_bipush (v := 8) g dk_1_isUsed_17 (by decide) (pc' := 19) rfl ?_
      refine v_iload_n g dk_1_isUsed_19 3 rfl rfl (pc' := 20) rfl ?_
      refine v_imul g dk_1_isUsed_20 (pc' := 21) rfl ?_
      refine v_istore (lv' := [(4, .int ((8 : Int32) * x3)), (0, .ref (ad 0)), (1, .int x1), (2, .int x2), (3, .int x3)]) g dk_1_isUsed_21 (by decide) rfl (pc' := 23) rfl ?_
      refine v_sub [1, 2, 3, 4, 0] rfl ?_
      obtain ⟨y5, hL, hf⟩ := bnd hf
      refine w_MX_isUsed_23 g hr hlk hK hA 100 x2 ((8 : Int32) * x3) _ hL ?_
      refine v_iinc (j := 3) (v := x3 + 1) (lv' := [(3, .int (x3 + 1)), (0, .ref (ad 0)), (1, .int x1), (2, .int y5)]) g dk_1_isUsed_66 rfl rfl (by decide) rfl (pc' := 69) rfl ?_
      refine v_goto (tgt := 9) g dk_1_isUsed_69 (by decide) ?_
      refine v_sub [1, 2, 3, 0] rfl ?_
      exact ih y5 (x3 + 1) o hf hx
def m_MX_isUsed (S : StM) (x1 : Int32) : Option Int32 :=
  if inb x1 40 = true then (L_MX_isUsed_9 S x1 100 (gA S 18 x1.toNatClampNeg) 0).bind fun y7 =>
    if isB y7 = true then some y7 else none else none
set_option maxHeartbeats 4000000 in
set_option maxRecDepth 100000 in
theorem c_MX_isUsed {l : Launch} {D : va_G} {ad : Nat → Nat} {ca : Nat → ClassId} {S : StM} {x1 : Int32} {r : Int32} (hf : m_MX_isUsed S x1 = some r) : KIM l D ad ca yk_1_isUsed (.code yk_1_isUsed bk_1_isUsed 5 (some .boolean) :: tb) rm_MX_isUsed [.ref (ad 0), .int x1] S (r, S) := by
  refine met_z (by decide) (Nat.le_of_ble_eq_true rfl) (fun p e s m below meth c A g hr hlk hK hA => ?_)
  replace g : CallFix p m c bk_1_isUsed 5 s _ tb Rk_1 := g
  refine v_lv (lv' := [(0, .ref (ad 0)), (1, .int x1)]) rfl ?_
  unfold m_MX_isUsed at hf
  refine v_aload_n g dk_1_isUsed_0 0 rfl rfl (pc' := 1) rfl ?_
  refine gfM_X_65 g hK dk_1_isUsed_1 (pc' := 4) rfl ?_
  refine v_iload_n g dk_1_isUsed_4 1 rfl rfl (pc' := 5) rfl ?_
  obtain ⟨hb1, hf⟩ := grd hf
  refine alM_19 g hK hb1 dk_1_isUsed_5 (pc' := 6) rfl ?_
  refine v_istore_n (lv' := [(2, .int (gA S 18 x1.toNatClampNeg)), (0, .ref (ad 0)), (1, .int x1)]) g dk_1_isUsed_6 rfl (by decide) rfl (pc' := 7) rfl ?_
  refine v_iconst (v := 0) g dk_1_isUsed_7 (by decide) (pc' := 8) rfl ?_
  refine v_istore_n (lv' := [(3, .int 0), (2, .int (gA S 18 x1.toNatClampNeg)), (0, .ref (ad 0)), (1, .int x1)]) g dk_1_isUsed_8 rfl (by decide) rfl (pc' := 9) rfl ?_
  refine v_sub [2, 3, 1, 0] rfl ?_
  obtain ⟨y7, hL, hf⟩ := bnd hf
  refine w_MX_isUsed_9 g hr hlk hK hA 100 (gA S 18 x1.toNatClampNeg) 0 _ hL ?_
  refine v_iload_n g dk_1_isUsed_72 0 rfl rfl (pc' := 73) rfl ?_
  obtain ⟨hz, hf⟩ := grd hf
  exact v_zret g hr hlk hK hz (pinj hf) dk_1_isUsed_73
