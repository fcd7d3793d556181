abbrev rm_MX_in : Room := { frames := 0, cells := 0, slots := 0, locals := 0 }
def m_MX_in (S : StM) (x0 : Int32) (x1 : Int32) : Option Int32 :=
  if x0 < 0 then some 0
    else if x1 ≤ x0 then some 0
    else some 1
set_option maxHeartbeats 4000000 in
set_option maxRecDepth 100000 in
theorem c_MX_in {l : Launch} {D : va_G} {ad : Nat → Nat} {ca : Nat → ClassId} {S : StM} {x0 : Int32} {x1 : Int32} {r : Int32} (hf : m_MX_in S x0 x1 = some r) : KIM l D ad ca yk_1_in (.code yk_1_in bk_1_in 2 (some .boolean) :: tb) rm_MX_in [.int x0, .int x1] S (r, S) := by
  refine met_z (by decide) (Nat.le_of_ble_eq_true rfl) (fun p e s m below meth c A g hr hlk hK hA => ?_)
  replace g : CallFix p m c bk_1_in 2 s _ tb Rk_1 := g
  refine v_lv (lv' := [(0, .int x0), (1, .int x1)]) rfl ?_
  unfold m_MX_in at hf
  refine v_iload_n g dk_1_in_0 0 rfl rfl (pc' := 1) rfl ?_
  refine v_if_lt (tgt := 13) (pc' := 4) g dk_1_in_1 (by decide) rfl (fun hc => ?_) (fun hc => ?_)
  · replace hf := ifT hc hf
    refine v_iconst (v := 0) g dk_1_in_13 (by decide) (pc' := 14) rfl ?_
    exact v_zret g hr hlk hK rfl (pinj hf) dk_1_in_14
  · replace hf := ifF hc hf
    refine v_iload_n g dk_1_in_4 0 rfl rfl (pc' := 5) rfl ?_
    refine v_iload_n g dk_1_in_5 1 rfl rfl (pc' := 6) rfl ?_
    refine v_icmp_ge (tgt := 13) (pc' := 9) g dk_1_in_6 (by decide) rfl (fun hc => ?_) (fun hc => ?_)
    · replace hf := ifT hc hf
      refine v_iconst (v := 0) g dk_1_in_13 (by decide) (pc' := 14) rfl ?_
      exact v_zret g hr hlk hK rfl (pinj hf) dk_1_in_14
    · replace hf := ifF hc hf
      refine v_iconst (v := 1) g dk_1_in_9 (by decide) (pc' := 10) rfl ?_
      refine v_goto (tgt := 14) g dk_1_in_10 (by decide) ?_
      exact v_zret g hr hlk hK rfl (pinj hf) dk_1_in_14
abbrev rm_MX_setting : Room := { frames := 1, cells := 0, slots := 0, locals := 21 }
def L_MX_setting_62 (x2 : Int32) : Nat → StM → Int32 → Option (StM)
  | 0, _, _ => none
  | n + 1, S, x3 =>
    if 60 < x3 then some S
    else if inb (((16 : Int32) * x3) + (gI S 0)) 976 = true then L_MX_setting_62 x2 n (tA S 5 (((16 : Int32) * x3) + (gI S 0)) x2) (x3 + 1) else none
set_option maxHeartbeats 4000000 in
set_option maxRecDepth 100000 in
theorem w_MX_setting_62 {p : Program} {l : Launch} {e : Env} {s : State} {m : MethodId} {args : Array Value} {below : List Frame} {meth : Method} {c : Code} {A : Nat → Prop} {D : va_G} {ad : Nat → Nat} {ca : Nat → ClassId} {Rm : Int32 × StM} {x2 : Int32} (g : CallFix p m c bk_1_setting 4 s args tb Rk_1) (hr : meth.sig.returnType = some .int) (hlk : meth.locks = false) (hK : va_K D vwCl (tyM ca) s) (hA : ∀ q, s.heap.size ≤ q → A q) : ∀ (n : Nat) (S : StM) (x3 : Int32) (o : StM), L_MX_setting_62 x2 n S x3 = some o → (Vj p l e rm_MX_setting s m args below meth c (MQ below (qI D vwCl (tyM ca) (wdM ad ca) A Rm) args s 0 0 A) D vwCl A 4 0 0 (wdM ad ca o) 89 [(0, .ref (ad 0))] []) → Vj p l e rm_MX_setting s m args below meth c (MQ below (qI D vwCl (tyM ca) (wdM ad ca) A Rm) args s 0 0 A) D vwCl A 4 0 0 (wdM ad ca S) 62 [(0, .ref (ad 0)), (2, .int x2), (3, .int x3)] [] := by
  intro n
  induction n with
  | zero => intro S x3 o hf; exact nomatch (show none = some o from hf)
  | succ n ih =>
    intro S x3 o hf hx
    rw [L_MX_setting_62] at hf
    refine v_iload_n g dk_1_setting_62 2 rfl rfl (pc' := 63) rfl ?_
    refine v_bipush (v := 60) g dk_1_setting_63 (by decide) (pc' := 65) rfl ?_
    refine v_icmp_gt (tgt := 89) (pc' := 68) g dk_1_setting_65 (by decide) rfl (fun hc => ?_) (fun hc => ?_)
    · replace hf := ifT hc hf
      refine v_sub [0] rfl ?_
      have e9 := Option.some.inj hf
      subst e9
      exact hx
    · replace hf := ifF hc hf
      refine v_aload_n g dk_1_setting_68 0 rfl rfl (pc' := 69) rfl ?_
      refine gfM_X_25 g hK dk_1_setting_69 (pc' := 72) rfl ?_
      refine v_bipush (v := 16) g dk_1_setting_72 (by decide) (pc' := 74) rfl ?_
      refine v_iload_n g dk_1_setting_74 2 rfl rfl (pc' := 75) rfl ?_
      refine v_imul g dk_1_setting_75 (pc' := 76) rfl ?_
      refine v_aload_n g dk_1_setting_76 0 rfl rfl (pc' := 77) rfl ?_
      refine gfM_X_99 g hK dk_1_setting_77 (pc' := 80) rfl ?_
      refine v_iadd g dk_1_setting_80 (pc' := 81) rfl ?_
      refine v_iload_n g dk_1_setting_81 1 rfl rfl (pc' := 82) rfl ?_
      obtain ⟨hb3, hf⟩ := grd hf
      refine asM_6 g hK hb3 dk_1_setting_82 (pc' := 83) rfl ?_
      refine v_iinc (j := 2) (v := x3 + 1) (lv' := [(3, .int (x3 + 1)), (0, .ref (ad 0)), (2, .int x2)]) g dk_1_setting_83 rfl rfl (by decide) rfl (pc' := 86) rfl ?_
      refine v_goto (tgt := 62) g dk_1_setting_86 (by decide) ?_
      refine v_sub [1, 2, 0] rfl ?_
      exact ih (tA S 5 (((16 : Int32) * x3) + (gI S 0)) x2) (x3 + 1) o hf hx
def m_MX_setting (S : StM) (x1 : Int32) (x2 : Int32) : Option (Int32 × StM) :=
  if (gI S 0) = 16 then some ((-1), S)
    else if x1 < 1 then some ((-1), S)
    else if 8 < x1 then some ((-1), S)
    else (m_MX_in S x2 x1).bind fun q1 =>
    if q1 = 0 then some ((-1), S)
    else if inb (gI S 0) 16 = true then (L_MX_setting_62 x2 100 (tA (tA (tA S 0 (gI S 0) (-1)) 1 (gI S 0) x1) 2 (gI S 0) x2) 0).bind fun y5 =>
    some (((gI y5 0) + (1 : Int32)) - (1 : Int32), sI y5 0 ((gI y5 0) + (1 : Int32))) else none
set_option maxHeartbeats 4000000 in
set_option maxRecDepth 100000 in
theorem c_MX_setting {l : Launch} {D : va_G} {ad : Nat → Nat} {ca : Nat → ClassId} {S : StM} {x1 : Int32} {x2 : Int32} {r : Int32 × StM} (hf : m_MX_setting S x1 x2 = some r) : KIM l D ad ca yk_1_setting (.code yk_1_setting bk_1_setting 4 (some .int) :: tb) rm_MX_setting [.ref (ad 0), .int x1, .int x2] S r := by
  refine met_i (by decide) (Nat.le_of_ble_eq_true rfl) (fun p e s m below meth c A g hr hlk hK hA => ?_)
  replace g : CallFix p m c bk_1_setting 4 s _ tb Rk_1 := g
  refine v_lv (lv' := [(0, .ref (ad 0)), (1, .int x1), (2, .int x2)]) rfl ?_
  unfold m_MX_setting at hf
  refine v_aload_n g dk_1_setting_0 0 rfl rfl (pc' := 1) rfl ?_
  refine gfM_X_99 g hK dk_1_setting_1 (pc' := 4) rfl ?_
  refine v_bipush (v := 16) g dk_1_setting_4 (by decide) (pc' := 6) rfl ?_
  refine v_icmp_eq (tgt := 28) (pc' := 9) g dk_1_setting_6 (by decide) rfl (fun hc => ?_) (fun hc => ?_)
  · replace hf := ifT hc hf
    refine v_iconst (v := (-1)) g dk_1_setting_28 (by decide) (pc' := 29) rfl ?_
    exact v_iret g hr hlk hK  (Option.some.inj hf) dk_1_setting_29
  · replace hf := ifF hc hf
    refine v_iload_n g dk_1_setting_9 1 rfl rfl (pc' := 10) rfl ?_
    refine v_iconst (v := 1) g dk_1_setting_10 (by decide) (pc' := 11) rfl ?_
    refine v_icmp_lt (tgt := 28) (pc' := 14) g dk_1_setting_11 (by decide) rfl (fun hc => ?_) (fun hc => ?_)
    · replace hf := ifT hc hf
      refine v_iconst (v := (-1)) g dk_1_setting_28 (by decide) (pc' := 29) rfl ?_
      exact v_iret g hr hlk hK  (Option.some.inj hf) dk_1_setting_29
    · replace hf := ifF hc hf
      refine v_iload_n g dk_1_setting_14 1 rfl rfl (pc' := 15) rfl ?_
      refine v_bipush (v := 8) g dk_1_setting_15 (by decide) (pc' := 17) rfl ?_
      refine v_icmp_gt (tgt := 28) (pc' := 20) g dk_1_setting_17 (by decide) rfl (fun hc => ?_) (fun hc => ?_)
      · replace hf := ifT hc hf
        refine v_iconst (v := (-1)) g dk_1_setting_28 (by decide) (pc' := 29) rfl ?_
        exact v_iret g hr hlk hK  (Option.some.inj hf) dk_1_setting_29
      · replace hf := ifF hc hf
        refine v_iload_n g dk_1_setting_20 2 rfl rfl (pc' := 21) rfl ?_
        refine v_iload_n g dk_1_setting_21 1 rfl rfl (pc' := 22) rfl ?_
        obtain ⟨q1, hq, hf⟩ := bnd hf
        refine v_callS_i (As := [.int x2, .int x1]) (rest := []) (r := q1) (S1 := S) g hK hA (c_MX_in hq) (kcM_X_102 g.2.2.2.2 rfl rfl (Nat.le_of_ble_eq_true rfl) (Nat.le_of_ble_eq_true rfl)) rfl rfl (Nat.le_of_ble_eq_true rfl) dk_1_setting_22 (Nat.zero_le _) (Nat.zero_le _) (pc' := 25) rfl ?_
        refine v_if_ne (tgt := 30) (pc' := 28) g dk_1_setting_25 (by decide) rfl (fun hc => ?_) (fun hc => ?_)
        · replace hf := ifF hc hf
          refine v_aload_n g dk_1_setting_30 0 rfl rfl (pc' := 31) rfl ?_
          refine gfM_X_7 g hK dk_1_setting_31 (pc' := 34) rfl ?_
          refine v_aload_n g dk_1_setting_34 0 rfl rfl (pc' := 35) rfl ?_
          refine gfM_X_99 g hK dk_1_setting_35 (pc' := 38) rfl ?_
          refine v_iconst (v := (-1)) g dk_1_setting_38 (by decide) (pc' := 39) rfl ?_
          obtain ⟨hb2, hf⟩ := grd hf
          refine asM_1 g hK hb2 dk_1_setting_39 (pc' := 40) rfl ?_
          refine v_aload_n g dk_1_setting_40 0 rfl rfl (pc' := 41) rfl ?_
          refine gfM_X_13 g hK dk_1_setting_41 (pc' := 44) rfl ?_
          refine v_aload_n g dk_1_setting_44 0 rfl rfl (pc' := 45) rfl ?_
          refine gfM_X_99 g hK dk_1_setting_45 (pc' := 48) rfl ?_
          refine v_iload_n g dk_1_setting_48 1 rfl rfl (pc' := 49) rfl ?_
          refine asM_2 g hK hb2 dk_1_setting_49 (pc' := 50) rfl ?_
          refine v_aload_n g dk_1_setting_50 0 rfl rfl (pc' := 51) rfl ?_
          refine gfM_X_16 g hK dk_1_setting_51 (pc' := 54) rfl ?_
          refine v_aload_n g dk_1_setting_54 0 rfl rfl (pc' := 55) rfl ?_
          refine gfM_X_99 g hK dk_1_setting_55 (pc' := 58) rfl ?_
          refine v_iload_n g dk_1_setting_58 2 rfl rfl (pc' := 59) rfl ?_
          refine asM_3 g hK hb2 dk_1_setting_59 (pc' := 60) rfl ?_
          refine v_iconst (v := 0) g dk_1_setting_60 (by decide) (pc' := 61) rfl ?_
          refine v_istore_n (lv' := [(3, .int 0), (0, .ref (ad 0)), (1, .int x1), (2, .int x2)]) g dk_1_setting_61 rfl (by decide) rfl (pc' := 62) rfl ?_
          refine v_sub [1, 3, 0] rfl ?_
          obtain ⟨y5, hL, hf⟩ := bnd hf
          refine w_MX_setting_62 g hr hlk hK hA 100 (tA (tA (tA S 0 (gI S 0) (-1)) 1 (gI S 0) x1) 2 (gI S 0) x2) 0 _ hL ?_
          refine v_aload_n g dk_1_setting_89 0 rfl rfl (pc' := 90) rfl ?_
          refine v_dup g dk_1_setting_90 rfl (pc' := 91) rfl ?_
          refine gfM_X_99 g hK dk_1_setting_91 (pc' := 94) rfl ?_
          refine v_iconst (v := 1) g dk_1_setting_94 (by decide) (pc' := 95) rfl ?_
          refine v_iadd g dk_1_setting_95 (pc' := 96) rfl ?_
          refine pfM_X_99 g hK dk_1_setting_96 (pc' := 99) rfl ?_
          refine v_aload_n g dk_1_setting_99 0 rfl rfl (pc' := 100) rfl ?_
          refine gfM_X_99 g hK dk_1_setting_100 (pc' := 103) rfl ?_
          refine v_iconst (v := 1) g dk_1_setting_103 (by decide) (pc' := 104) rfl ?_
          refine v_isub g dk_1_setting_104 (pc' := 105) rfl ?_
          exact v_iret g hr hlk hK  (Option.some.inj hf) dk_1_setting_105
        · replace hf := ifT hc hf
          refine v_iconst (v := (-1)) g dk_1_setting_28 (by decide) (pc' := 29) rfl ?_
          exact v_iret g hr hlk hK  (Option.some.inj hf) dk_1_setting_29
abbrev rm_MX_alias : Room := { frames := 1, cells := 0, slots := 0, locals := 21 }
def m_MX_alias (S : StM) (x1 : Int32) : Option (Int32 × StM) :=
  if (gI S 0) = 16 then some ((-1), S)
    else (m_MX_in S x1 16).bind fun q1 =>
    if q1 = 0 then some ((-1), S)
    else if inb (gI S 0) 16 = true then some (((gI S 0) + (1 : Int32)) - (1 : Int32), sI (tA (tA (tA S 0 (gI S 0) x1) 1 (gI S 0) 0) 2 (gI S 0) 0) 0 ((gI S 0) + (1 : Int32))) else none
set_option maxHeartbeats 4000000 in
set_option maxRecDepth 100000 in
theorem c_MX_alias {l : Launch} {D : va_G} {ad : Nat → Nat} {ca : Nat → ClassId} {S : StM} {x1 : Int32} {r : Int32 × StM} (hf : m_MX_alias S x1 = some r) : KIM l D ad ca yk_1_alias (.code yk_1_alias bk_1_alias 2 (some .int) :: tb) rm_MX_alias [.ref (ad 0), .int x1] S r := by
  refine met_i (by decide) (Nat.le_of_ble_eq_true rfl) (fun p e s m below meth c A g hr hlk hK hA => ?_)
  replace g : CallFix p m c bk_1_alias 2 s _ tb Rk_1 := g
  refine v_lv (lv' := [(0, .ref (ad 0)), (1, .int x1)]) rfl ?_
  unfold m_MX_alias at hf
  refine v_aload_n g dk_1_alias_0 0 rfl rfl (pc' := 1) rfl ?_
  refine gfM_X_99 g hK dk_1_alias_1 (pc' := 4) rfl ?_
  refine v_bipush (v := 16) g dk_1_alias_4 (by decide) (pc' := 6) rfl ?_
  refine v_icmp_eq (tgt := 18) (pc' := 9) g dk_1_alias_6 (by decide) rfl (fun hc => ?_) (fun hc => ?_)
  · replace hf := ifT hc hf
    refine v_iconst (v := (-1)) g dk_1_alias_18 (by decide) (pc' := 19) rfl ?_
    exact v_iret g hr hlk hK  (Option.some.inj hf) dk_1_alias_19
  · replace hf := ifF hc hf
    refine v_iload_n g dk_1_alias_9 1 rfl rfl (pc' := 10) rfl ?_
    refine v_bipush (v := 16) g dk_1_alias_10 (by decide) (pc' := 12) rfl ?_
    obtain ⟨q1, hq, hf⟩ := bnd hf
    refine v_callS_i (As := [.int x1, .int 16]) (rest := []) (r := q1) (S1 := S) g hK hA (c_MX_in hq) (kcM_X_102 g.2.2.2.2 rfl rfl (Nat.le_of_ble_eq_true rfl) (Nat.le_of_ble_eq_true rfl)) rfl rfl (Nat.le_of_ble_eq_true rfl) dk_1_alias_12 (Nat.zero_le _) (Nat.zero_le _) (pc' := 15) rfl ?_
    refine v_if_ne (tgt := 20) (pc' := 18) g dk_1_alias_15 (by decide) rfl (fun hc => ?_) (fun hc => ?_)
    · replace hf := ifF hc hf
      refine v_aload_n g dk_1_alias_20 0 rfl rfl (pc' := 21) rfl ?_
      refine gfM_X_7 g hK dk_1_alias_21 (pc' := 24) rfl ?_
      refine v_aload_n g dk_1_alias_24 0 rfl rfl (pc' := 25) rfl ?_
      refine gfM_X_99 g hK dk_1_alias_25 (pc' := 28) rfl ?_
      refine v_iload_n g dk_1_alias_28 1 rfl rfl (pc' := 29) rfl ?_
      obtain ⟨hb2, hf⟩ := grd hf
      refine asM_1 g hK hb2 dk_1_alias_29 (pc' := 30) rfl ?_
      refine v_aload_n g dk_1_alias_30 0 rfl rfl (pc' := 31) rfl ?_
      refine gfM_X_13 g hK dk_1_alias_31 (pc' := 34) rfl ?_
      refine v_aload_n g dk_1_alias_34 0 rfl rfl (pc' := 35) rfl ?_
      refine gfM_X_99 g hK dk_1_alias_35 (pc' := 38) rfl ?_
      refine v_iconst (v := 0) g dk_1_alias_38 (by decide) (pc' := 39) rfl ?_
      refine asM_2 g hK hb2 dk_1_alias_39 (pc' := 40) rfl ?_
      refine v_aload_n g dk_1_alias_40 0 rfl rfl (pc' := 41) rfl ?_
      refine gfM_X_16 g hK dk_1_alias_41 (pc' := 44) rfl ?_
      refine v_aload_n g dk_1_alias_44 0 rfl rfl (pc' := 45) rfl ?_
      refine gfM_X_99 g hK dk_1_alias_45 (pc' := 48) rfl ?_
      refine v_iconst (v := 0) g dk_1_alias_48 (by decide) (pc' := 49) rfl ?_
      refine asM_3 g hK hb2 dk_1_alias_49 (pc' := 50) rfl ?_
      refine v_aload_n g dk_1_alias_50 0 rfl rfl (pc' := 51) rfl ?_
      refine v_dup g dk_1_alias_51 rfl (pc' := 52) rfl ?_
      refine gfM_X_99 g hK dk_1_alias_52 (pc' := 55) rfl ?_
      refine v_iconst (v := 1) g dk_1_alias_55 (by decide) (pc' := 56) rfl ?_
      refine v_iadd g dk_1_alias_56 (pc' := 57) rfl ?_
      refine pfM_X_99 g hK dk_1_alias_57 (pc' := 60) rfl ?_
      refine v_aload_n g dk_1_alias_60 0 rfl rfl (pc' := 61) rfl ?_
      refine gfM_X_99 g hK dk_1_alias_61 (pc' := 64) rfl ?_
      refine v_iconst (v := 1) g dk_1_alias_64 (by decide) (pc' := 65) rfl ?_
      refine v_isub g dk_1_alias_65 (pc' := 66) rfl ?_
      exact v_iret g hr hlk hK  (Option.some.inj hf) dk_1_alias_66
    · replace hf := ifT hc hf
      refine v_iconst (v := (-1)) g dk_1_alias_18 (by decide) (pc' := 19) rfl ?_
      exact v_iret g hr hlk hK  (Option.some.inj hf) dk_1_alias_19
abbrev rm_MX_baseOf : Room := { frames := 1, cells := 0, slots := 0, locals := 21 }
def L_MX_baseOf_4 (S : StM) : Nat → Int32 → Int32 → Option (Unit ⊕ Int32)
  | 0, _, _ => none
  | n + 1, x2, x3 =>
    if 16 < x3 then some (.inl ())
    else (m_MX_in S x2 (gI S 0)).bind fun q1 =>
    if q1 = 0 then some (.inr (-1))
    else if inb x2 16 = true then if (gA S 0 x2.toNatClampNeg) = (-1) then some (.inr x2)
    else L_MX_baseOf_4 S n (gA S 0 x2.toNatClampNeg) (x3 + 1) else none
set_option maxHeartbeats 4000000 in
set_option maxRecDepth 100000 in
theorem w_MX_baseOf_4 {p : Program} {l : Launch} {e : Env} {s : State} {m : MethodId} {args : Array Value} {below : List Frame} {meth : Method} {c : Code} {A : Nat → Prop} {D : va_G} {ad : Nat → Nat} {ca : Nat → ClassId} {Rm : Int32 × StM} {S : StM} (g : CallFix p m c bk_1_baseOf 4 s args tb Rk_1) (hr : meth.sig.returnType = some .int) (hlk : meth.locks = false) (hK : va_K D vwCl (tyM ca) s) (hA : ∀ q, s.heap.size ≤ q → A q) : ∀ (n : Nat) (x2 : Int32) (x3 : Int32) (o : Unit ⊕ Int32), L_MX_baseOf_4 S n x2 x3 = some o → (∀ y, o = .inl y → Vj p l e rm_MX_baseOf s m args below meth c (MQ below (qI D vwCl (tyM ca) (wdM ad ca) A Rm) args s 0 0 A) D vwCl A 4 0 0 (wdM ad ca S) 48 [] []) → (∀ r, o = .inr r → (r, S) = Rm) → Vj p l e rm_MX_baseOf s m args below meth c (MQ below (qI D vwCl (tyM ca) (wdM ad ca) A Rm) args s 0 0 A) D vwCl A 4 0 0 (wdM ad ca S) 4 [(0, .ref (ad 0)), (2, .int x2), (3, .int x3)] [] := by
  intro n
  induction n with
  | zero => intro x2 x3 o hf; exact nomatch (show none = some o from hf)
  | succ n ih =>
    intro x2 x3 o hf hx hret
    rw [L_MX_baseOf_4] at hf
    refine v_iload_n g dk_1_baseOf_4 2 rfl rfl (pc' := 5) rfl ?_
    refine v_bipush (v := 16) g dk_1_baseOf_5 (by decide) (pc' := 7) rfl ?_
    refine v_icmp_gt (tgt := 48) (pc' := 10) g dk_1_baseOf_7 (by decide) rfl (fun hc => ?_) (fun hc => ?_)
    · replace hf := ifT hc hf
      refine v_sub [] rfl ?_
      exact hx _ (Option.some.inj hf).symm
    · replace hf := ifF hc hf
      refine v_iload_n g dk_1_baseOf_10 1 rfl rfl (pc' := 11) rfl ?_
      refine v_aload_n g dk_1_baseOf_11 0 rfl rfl (pc' := 12) rfl ?_
      refine gfM_X_99 g hK dk_1_baseOf_12 (pc' := 15) rfl ?_
      obtain ⟨q1, hq, hf⟩ := bnd hf
      refine v_callS_i (As := [.int x2, .int (gI S 0)]) (rest := []) (r := q1) (S1 := S) g hK hA (c_MX_in hq) (kcM_X_102 g.2.2.2.2 rfl rfl (Nat.le_of_ble_eq_true rfl) (Nat.le_of_ble_eq_true rfl)) rfl rfl (Nat.le_of_ble_eq_true rfl) dk_1_baseOf_15 (Nat.zero_le _) (Nat.zero_le _) (pc' := 18) rfl ?_
      refine v_if_ne (tgt := 23) (pc' := 21) g dk_1_baseOf_18 (by decide) rfl (fun hc => ?_) (fun hc => ?_)
      · replace hf := ifF hc hf
        refine v_aload_n g dk_1_baseOf_23 0 rfl rfl (pc' := 24) rfl ?_
        refine gfM_X_7 g hK dk_1_baseOf_24 (pc' := 27) rfl ?_
        refine v_iload_n g dk_1_baseOf_27 1 rfl rfl (pc' := 28) rfl ?_
        obtain ⟨hb2, hf⟩ := grd hf
        refine alM_1 g hK hb2 dk_1_baseOf_28 (pc' := 29) rfl ?_
        refine v_iconst (v := (-1)) g dk_1_baseOf_29 (by decide) (pc' := 30) rfl ?_
        refine v_icmp_ne (tgt := 35) (pc' := 33) g dk_1_baseOf_30 (by decide) rfl (fun hc => ?_) (fun hc => ?_)
        · replace hf := ifF hc hf
          refine v_aload_n g dk_1_baseOf_35 0 rfl rfl (pc' := 36) rfl ?_
          refine gfM_X_7 g hK dk_1_baseOf_36 (pc' := 39) rfl ?_
          refine v_iload_n g dk_1_baseOf_39 1 rfl rfl (pc' := 40) rfl ?_
          refine alM_1 g hK hb2 dk_1_baseOf_40 (pc' := 41) rfl ?_
          refine v_istore_n (lv' := [(2, .int (gA S 0 x2.toNatClampNeg)), (0, .ref (ad 0)), (3, .int x3)]) g dk_1_baseOf_41 rfl (by decide) rfl (pc' := 42) rfl ?_
          refine v_iinc (j := 2) (v := x3 + 1) (lv' := [(3, .int (x3 + 1)), (2, .int (gA S 0 x2.toNatClampNeg)), (0, .ref (ad 0))]) g dk_1_baseOf_42 rfl rfl (by decide) rfl (pc' := 45) rfl ?_
          refine v_goto (tgt := 4) g dk_1_baseOf_45 (by decide) ?_
          refine v_sub [2, 1, 0] rfl ?_
          exact ih (gA S 0 x2.toNatClampNeg) (x3 + 1) o hf hx hret
        · replace hf := ifT hc hf
          refine v_iload_n g dk_1_baseOf_33 1 rfl rfl (pc' := 34) rfl ?_
          exact v_iret g hr hlk hK  (hret _ (Option.some.inj hf).symm) dk_1_baseOf_34
      · replace hf := ifT hc hf
        refine v_iconst (v := (-1)) g dk_1_baseOf_21 (by decide) (pc' := 22) rfl ?_
        exact v_iret g hr hlk hK  (hret _ (Option.some.inj hf).symm) dk_1_baseOf_22
def m_MX_baseOf (S : StM) (x1 : Int32) : Option Int32 :=
  (L_MX_baseOf_4 S 100 x1 0).bind fun o3 => exK o3 fun y4 =>
    some (-1)
set_option maxHeartbeats 4000000 in
set_option maxRecDepth 100000 in
theorem c_MX_baseOf {l : Launch} {D : va_G} {ad : Nat → Nat} {ca : Nat → ClassId} {S : StM} {x1 : Int32} {r : Int32} (hf : m_MX_baseOf S x1 = some r) : KIM l D ad ca yk_1_baseOf (.code yk_1_baseOf bk_1_baseOf 4 (some .int) :: tb) rm_MX_baseOf [.ref (ad 0), .int x1] S (r, S) := by
  refine met_i (by decide) (Nat.le_of_ble_eq_true rfl) (fun p e s m below meth c A g hr hlk hK hA => ?_)
  replace g : CallFix p m c bk_1_baseOf 4 s _ tb Rk_1 := g
  refine v_lv (lv' := [(0, .ref (ad 0)), (1, .int x1)]) rfl ?_
  unfold m_MX_baseOf at hf
  refine v_iload_n g dk_1_baseOf_0 1 rfl rfl (pc' := 1) rfl ?_
  refine v_istore_n (lv' := [(2, .int x1), (0, .ref (ad 0)), (1, .int x1)]) g dk_1_baseOf_1 rfl (by decide) rfl (pc' := 2) rfl ?_
  refine v_iconst (v := 0) g dk_1_baseOf_2 (by decide) (pc' := 3) rfl ?_
  refine v_istore_n (lv' := [(3, .int 0), (2, .int x1), (0, .ref (ad 0)), (1, .int x1)]) g dk_1_baseOf_3 rfl (by decide) rfl (pc' := 4) rfl ?_
  refine v_sub [2, 1, 0] rfl ?_
  obtain ⟨o3, hL, hf⟩ := bnd hf
  refine w_MX_baseOf_4 g hr hlk hK hA 100 x1 0 _ hL (fun y4 hy => ?_) (fun r9 hy => ?_)
  · subst hy
    replace hf := exKl hf
    refine v_iconst (v := (-1)) g dk_1_baseOf_48 (by decide) (pc' := 49) rfl ?_
    exact v_iret g hr hlk hK  (pinj hf) dk_1_baseOf_49
  · subst hy
    exact pinj hf
abbrev rm_MX_base : Room := { frames := 2, cells := 0, slots := 0, locals := 44 }
def m_MX_base (S : StM) (x1 : Int32) : Option Int32 :=
  (m_MX_baseOf S x1).bind fun q1 =>
    some q1
set_option maxHeartbeats 4000000 in
set_option maxRecDepth 100000 in
theorem c_MX_base {l : Launch} {D : va_G} {ad : Nat → Nat} {ca : Nat → ClassId} {S : StM} {x1 : Int32} {r : Int32} (hf : m_MX_base S x1 = some r) : KIM l D ad ca yk_1_base (.code yk_1_base bk_1_base 2 (some .int) :: tb) rm_MX_base [.ref (ad 0), .int x1] S (r, S) := by
  refine met_i (by decide) (Nat.le_of_ble_eq_true rfl) (fun p e s m below meth c A g hr hlk hK hA => ?_)
  replace g : CallFix p m c bk_1_base 2 s _ tb Rk_1 := g
  refine v_lv (lv' := [(0, .ref (ad 0)), (1, .int x1)]) rfl ?_
  unfold m_MX_base at hf
  refine v_aload_n g dk_1_base_0 0 rfl rfl (pc' := 1) rfl ?_
  refine v_iload_n g dk_1_base_1 1 rfl rfl (pc' := 2) rfl ?_
  obtain ⟨q1, hq, hf⟩ := bnd hf
  refine v_callV_i (As := [.int x1]) (rest := []) (r := q1) (S1 := S) g hK hA (c_MX_baseOf hq) (kcM_X_106 g.2.2.2.2 rfl rfl (Nat.le_of_ble_eq_true rfl) (Nat.le_of_ble_eq_true rfl)) (ci := 1) (q0 := 0) rfl rfl rfl rfl rfl (Nat.le_of_ble_eq_true rfl) dk_1_base_2 (Nat.zero_le _) (Nat.zero_le _) (pc' := 5) rfl ?_
  exact v_iret g hr hlk hK  (pinj hf) dk_1_base_5
abbrev rm_MX_platform : Room := { frames := 0, cells := 0, slots := 0, locals := 0 }
def L_MX_platform_13 : Nat → StM → Int32 → Option (StM)
  | 0, _, _ => none
  | n + 1, S, x1 =>
    if 8 ≤ x1 then some S
    else if inb (((8 : Int32) * (gI S 1)) + x1) 64 = true then L_MX_platform_13 n (tA S 3 (((8 : Int32) * (gI S 1)) + x1) (-1)) (x1 + 1) else none
set_option maxHeartbeats 4000000 in
set_option maxRecDepth 100000 in
theorem w_MX_platform_13 {p : Program} {l : Launch} {e : Env} {s : State} {m : MethodId} {args : Array Value} {below : List Frame} {meth : Method} {c : Code} {A : Nat → Prop} {D : va_G} {ad : Nat → Nat} {ca : Nat → ClassId} {Rm : Int32 × StM} (g : CallFix p m c bk_1_platform 2 s args tb Rk_1) (hr : meth.sig.returnType = some .int) (hlk : meth.locks = false) (hK : va_K D vwCl (tyM ca) s) (hA : ∀ q, s.heap.size ≤ q → A q) : ∀ (n : Nat) (S : StM) (x1 : Int32) (o : StM), L_MX_platform_13 n S x1 = some o → (Vj p l e rm_MX_platform s m args below meth c (MQ below (qI D vwCl (tyM ca) (wdM ad ca) A Rm) args s 0 0 A) D vwCl A 2 0 0 (wdM ad ca o) 40 [(0, .ref (ad 0))] []) → Vj p l e rm_MX_platform s m args below meth c (MQ below (qI D vwCl (tyM ca) (wdM ad ca) A Rm) args s 0 0 A) D vwCl A 2 0 0 (wdM ad ca S) 13 [(0, .ref (ad 0)), (1, .int x1)] [] := by
  intro n
  induction n with
  | zero => intro S x1 o hf; exact nomatch (show none = some o from hf)
  | succ n ih =>
    intro S x1 o hf hx
    rw [L_MX_platform_13] at hf
    refine v_iload_n g dk_1_platform_13 1 rfl rfl (pc' := 14) rfl ?_
    refine v_bipush (v := 8) g dk_1_platform_14 (by decide) (pc' := 16) rfl ?_
    refine v_icmp_ge (tgt := 40) (pc' := 19) g dk_1_platform_16 (by decide) rfl (fun hc => ?_) (fun hc => ?_)
    · replace hf := ifT hc hf
      refine v_sub [0] rfl ?_
      have e9 := Option.some.inj hf
      subst e9
      exact hx
    · replace hf := ifF hc hf
      refine v_aload_n g dk_1_platform_19 0 rfl rfl (pc' := 20) rfl ?_
      refine gfM_X_19 g hK dk_1_platform_20 (pc' := 23) rfl ?_
      refine v_bipush (v := 8) g dk_1_platform_23 (by decide) (pc' := 25) rfl ?_
      refine v_aload_n g dk_1_platform_25 0 rfl rfl (pc' := 26) rfl ?_
      refine gfM_X_110 g hK dk_1_platform_26 (pc' := 29) rfl ?_
      refine v_imul g dk_1_platform_29 (pc' := 30) rfl ?_
      refine v_iload_n g dk_1_platform_30 1 rfl rfl (pc' := 31) rfl ?_
      refine v_iadd g dk_1_platform_31 (pc' := 32) rfl ?_
      refine v_iconst (v := (-1)) g dk_1_platform_32 (by decide) (pc' := 33) rfl ?_
      obtain ⟨hb1, hf⟩ := grd hf
      refine asM_4 g hK hb1 dk_1_platform_33 (pc' := 34) rfl ?_
      refine v_iinc (j := 1) (v := x1 + 1) (lv' := [(1, .int (x1 + 1)), (0, .ref (ad 0))]) g dk_1_platform_34 rfl rfl (by decide) rfl (pc' := 37) rfl ?_
      refine v_goto (tgt := 13) g dk_1_platform_37 (by decide) ?_
      refine v_sub [1, 0] rfl ?_
      exact ih (tA S 3 (((8 : Int32) * (gI S 1)) + x1) (-1)) (x1 + 1) o hf hx
def m_MX_platform (S : StM) : Option (Int32 × StM) :=
  if (gI S 1) = 8 then some ((-1), S)
    else (L_MX_platform_13 100 S 0).bind fun y3 =>
    some (((gI y3 1) + (1 : Int32)) - (1 : Int32), sI y3 1 ((gI y3 1) + (1 : Int32)))
set_option maxHeartbeats 4000000 in
set_option maxRecDepth 100000 in
theorem c_MX_platform {l : Launch} {D : va_G} {ad : Nat → Nat} {ca : Nat → ClassId} {S : StM} {r : Int32 × StM} (hf : m_MX_platform S = some r) : KIM l D ad ca yk_1_platform (.code yk_1_platform bk_1_platform 2 (some .int) :: tb) rm_MX_platform [.ref (ad 0)] S r := by
  refine met_i (by decide) (Nat.le_of_ble_eq_true rfl) (fun p e s m below meth c A g hr hlk hK hA => ?_)
  replace g : CallFix p m c bk_1_platform 2 s _ tb Rk_1 := g
  refine v_lv (lv' := [(0, .ref (ad 0))]) rfl ?_
  unfold m_MX_platform at hf
  refine v_aload_n g dk_1_platform_0 0 rfl rfl (pc' := 1) rfl ?_
  refine gfM_X_110 g hK dk_1_platform_1 (pc' := 4) rfl ?_
  refine v_bipush (v := 8) g dk_1_platform_4 (by decide) (pc' := 6) rfl ?_
  refine v_icmp_ne (tgt := 11) (pc' := 9) g dk_1_platform_6 (by decide) rfl (fun hc => ?_) (fun hc => ?_)
  · replace hf := ifF hc hf
    refine v_iconst (v := 0) g dk_1_platform_11 (by decide) (pc' := 12) rfl ?_
    refine v_istore_n (lv' := [(1, .int 0), (0, .ref (ad 0))]) g dk_1_platform_12 rfl (by decide) rfl (pc' := 13) rfl ?_
    refine v_sub [1, 0] rfl ?_
    obtain ⟨y3, hL, hf⟩ := bnd hf
    refine w_MX_platform_13 g hr hlk hK hA 100 S 0 _ hL ?_
    refine v_aload_n g dk_1_platform_40 0 rfl rfl (pc' := 41) rfl ?_
    refine v_dup g dk_1_platform_41 rfl (pc' := 42) rfl ?_
    refine gfM_X_110 g hK dk_1_platform_42 (pc' := 45) rfl ?_
    refine v_iconst (v := 1) g dk_1_platform_45 (by decide) (pc' := 46) rfl ?_
    refine v_iadd g dk_1_platform_46 (pc' := 47) rfl ?_
    refine pfM_X_110 g hK dk_1_platform_47 (pc' := 50) rfl ?_
    refine v_aload_n g dk_1_platform_50 0 rfl rfl (pc' := 51) rfl ?_
    refine gfM_X_110 g hK dk_1_platform_51 (pc' := 54) rfl ?_
    refine v_iconst (v := 1) g dk_1_platform_54 (by decide) (pc' := 55) rfl ?_
    refine v_isub g dk_1_platform_55 (pc' := 56) rfl ?_
    exact v_iret g hr hlk hK  (Option.some.inj hf) dk_1_platform_56
  · replace hf := ifT hc hf
    refine v_iconst (v := (-1)) g dk_1_platform_9 (by decide) (pc' := 10) rfl ?_
    exact v_iret g hr hlk hK  (Option.some.inj hf) dk_1_platform_10
