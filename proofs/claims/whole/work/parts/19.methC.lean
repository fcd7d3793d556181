abbrev rm_CX_wants : Room := { frames := 1, cells := 0, slots := 0, locals := 21 }
def m_CX_wants (S : StC) (x1 : Int32) (x2 : Int32) : Option (Int32 × StC) :=
  (m_CTargets_isThere S x1).bind fun q1 =>
    if q1 = 0 then some (0, S)
    else (m_CConditions_isThere S x2).bind fun q2 =>
    if q2 = 0 then some (0, S)
    else if inb x1 16 = true then if inb x2 40 = true then some (1, tA (tA S 7 x1 x2) 6 x2 (vp_nar .boolean 1)) else none else none
set_option maxHeartbeats 4000000 in
set_option maxRecDepth 100000 in
theorem c_CX_wants {l : Launch} {D : va_G} {ad : Nat → Nat} {ca : Nat → ClassId} {S : StC} {x1 : Int32} {x2 : Int32} {r : Int32 × StC} (hf : m_CX_wants S x1 x2 = some r) : KIC l D ad ca yk_0_wants (.code yk_0_wants bk_0_wants 3 (some .boolean) :: tb) rm_CX_wants [.ref (ad 0), .int x1, .int x2] S r := by
  refine met_z (by decide) (Nat.le_of_ble_eq_true rfl) (fun p e s m below meth c A g hr hlk hK hA => ?_)
  replace g : CallFix p m c bk_0_wants 3 s _ tb Rk_0 := g
  refine v_lv (lv' := [(0, .ref (ad 0)), (1, .int x1), (2, .int x2)]) rfl ?_
  unfold m_CX_wants at hf
  refine v_aload_n g dk_0_wants_0 0 rfl rfl (pc' := 1) rfl ?_
  refine gfC_X_40 g hK dk_0_wants_1 (pc' := 4) rfl ?_
  refine v_iload_n g dk_0_wants_4 1 rfl rfl (pc' := 5) rfl ?_
  obtain ⟨q1, hq, hf⟩ := bnd hf
  refine v_callV_i (As := [.int x1]) (rest := []) (r := q1) (S1 := S) g hK hA (c_CTargets_isThere hq) (kcC_X_121 g.2.2.2.2 rfl rfl (Nat.le_of_ble_eq_true rfl) (Nat.le_of_ble_eq_true rfl)) (ci := 9) (q0 := 13) rfl rfl rfl rfl rfl (Nat.le_of_ble_eq_true rfl) dk_0_wants_5 (Nat.zero_le _) (Nat.zero_le _) (pc' := 8) rfl ?_
  refine v_if_eq (tgt := 22) (pc' := 11) g dk_0_wants_8 (by decide) rfl (fun hc => ?_) (fun hc => ?_)
  · replace hf := ifT hc hf
    refine v_iconst (v := 0) g dk_0_wants_22 (by decide) (pc' := 23) rfl ?_
    exact v_zret g hr hlk hK rfl (Option.some.inj hf) dk_0_wants_23
  · replace hf := ifF hc hf
    refine v_aload_n g dk_0_wants_11 0 rfl rfl (pc' := 12) rfl ?_
    refine gfC_X_33 g hK dk_0_wants_12 (pc' := 15) rfl ?_
    refine v_iload_n g dk_0_wants_15 2 rfl rfl (pc' := 16) rfl ?_
    obtain ⟨q2, hq, hf⟩ := bnd hf
    refine v_callV_i (As := [.int x2]) (rest := []) (r := q2) (S1 := S) g hK hA (c_CConditions_isThere hq) (kcC_X_108 g.2.2.2.2 rfl rfl (Nat.le_of_ble_eq_true rfl) (Nat.le_of_ble_eq_true rfl)) (ci := 2) (q0 := 9) rfl rfl rfl rfl rfl (Nat.le_of_ble_eq_true rfl) dk_0_wants_16 (Nat.zero_le _) (Nat.zero_le _) (pc' := 19) rfl ?_
    refine v_if_ne (tgt := 24) (pc' := 22) g dk_0_wants_19 (by decide) rfl (fun hc => ?_) (fun hc => ?_)
    · replace hf := ifF hc hf
      refine v_aload_n g dk_0_wants_24 0 rfl rfl (pc' := 25) rfl ?_
      refine gfC_X_40 g hK dk_0_wants_25 (pc' := 28) rfl ?_
      refine gfC_X_122 g hK dk_0_wants_28 (pc' := 31) rfl ?_
      refine v_iload_n g dk_0_wants_31 1 rfl rfl (pc' := 32) rfl ?_
      refine v_iload_n g dk_0_wants_32 2 rfl rfl (pc' := 33) rfl ?_
      obtain ⟨hb3, hf⟩ := grd hf
      refine asC_14 g hK hb3 dk_0_wants_33 (pc' := 34) rfl ?_
      refine v_aload_n g dk_0_wants_34 0 rfl rfl (pc' := 35) rfl ?_
      refine gfC_X_33 g hK dk_0_wants_35 (pc' := 38) rfl ?_
      refine gfC_X_126 g hK dk_0_wants_38 (pc' := 41) rfl ?_
      refine v_iload_n g dk_0_wants_41 2 rfl rfl (pc' := 42) rfl ?_
      refine v_iconst (v := 1) g dk_0_wants_42 (by decide) (pc' := 43) rfl ?_
      obtain ⟨hb4, hf⟩ := grd hf
      refine asC_12 g hK hb4 dk_0_wants_43 (pc' := 44) rfl ?_
      refine v_iconst (v := 1) g dk_0_wants_44 (by decide) (pc' := 45) rfl ?_
      exact v_zret g hr hlk hK rfl (Option.some.inj hf) dk_0_wants_45
    · replace hf := ifT hc hf
      refine v_iconst (v := 0) g dk_0_wants_22 (by decide) (pc' := 23) rfl ?_
      exact v_zret g hr hlk hK rfl (Option.some.inj hf) dk_0_wants_23
abbrev rm_CChoices_nothing : Room := { frames := 0, cells := 0, slots := 0, locals := 0 }
def m_CChoices_nothing (S : StC) : Option Int64 :=
  some 0
set_option maxHeartbeats 4000000 in
set_option maxRecDepth 100000 in
theorem c_CChoices_nothing {l : Launch} {D : va_G} {ad : Nat → Nat} {ca : Nat → ClassId} {S : StC} {r : Int64} (hf : m_CChoices_nothing S = some r) : KLC l D ad ca yk_3_nothing (.code yk_3_nothing bk_3_nothing 0 (some .long) :: tb) rm_CChoices_nothing [] S (r, S) := by
  refine met_l (by decide) (Nat.le_of_ble_eq_true rfl) (fun p e s m below meth c A g hr hlk hK hA => ?_)
  replace g : CallFix p m c bk_3_nothing 0 s _ tb Rk_3 := g
  refine v_lv (lv' := []) rfl ?_
  unfold m_CChoices_nothing at hf
  refine v_lconst (v := 0) g dk_3_nothing_0 (by decide) (pc' := 1) rfl ?_
  exact v_lret g hr hlk hK  (pinj hf) dk_3_nothing_1
abbrev rm_CSelects_add : Room := { frames := 1, cells := 0, slots := 0, locals := 19 }
def m_CSelects_add (S : StC) (x1 : Int32) : Option (Int32 × StC) :=
  if (gI S 5) < 24 then if inb (gI S 5) 24 = true then (m_CChoices_nothing (tA S 9 (gI S 5) x1)).bind fun q2 =>
    some (gI S 5, sI (tB (tA S 9 (gI S 5) x1) 1 (gI S 5) q2) 5 ((gI S 5) + (1 : Int32))) else none
    else some ((-1), S)
set_option maxHeartbeats 4000000 in
set_option maxRecDepth 100000 in
theorem c_CSelects_add {l : Launch} {D : va_G} {ad : Nat → Nat} {ca : Nat → ClassId} {S : StC} {x1 : Int32} {r : Int32 × StC} (hf : m_CSelects_add S x1 = some r) : KIC l D ad ca yk_10_add (.code yk_10_add bk_10_add 2 (some .int) :: tb) rm_CSelects_add [.ref (ad 16), .int x1] S r := by
  refine met_i (by decide) (Nat.le_of_ble_eq_true rfl) (fun p e s m below meth c A g hr hlk hK hA => ?_)
  replace g : CallFix p m c bk_10_add 2 s _ tb Rk_10 := g
  refine v_lv (lv' := [(0, .ref (ad 16)), (1, .int x1)]) rfl ?_
  unfold m_CSelects_add at hf
  refine v_aload_n g dk_10_add_0 0 rfl rfl (pc' := 1) rfl ?_
  refine gfC_Selects_38 g hK dk_10_add_1 (pc' := 4) rfl ?_
  refine v_bipush (v := 24) g dk_10_add_4 (by decide) (pc' := 6) rfl ?_
  refine v_icmp_lt (tgt := 11) (pc' := 9) g dk_10_add_6 (by decide) rfl (fun hc => ?_) (fun hc => ?_)
  · replace hf := ifT hc hf
    refine v_aload_n g dk_10_add_11 0 rfl rfl (pc' := 12) rfl ?_
    refine gfC_Selects_9 g hK dk_10_add_12 (pc' := 15) rfl ?_
    refine v_aload_n g dk_10_add_15 0 rfl rfl (pc' := 16) rfl ?_
    refine gfC_Selects_38 g hK dk_10_add_16 (pc' := 19) rfl ?_
    refine v_iload_n g dk_10_add_19 1 rfl rfl (pc' := 20) rfl ?_
    obtain ⟨hb1, hf⟩ := grd hf
    refine asC_17 g hK hb1 dk_10_add_20 (pc' := 21) rfl ?_
    refine v_aload_n g dk_10_add_21 0 rfl rfl (pc' := 22) rfl ?_
    refine gfC_Selects_15 g hK dk_10_add_22 (pc' := 25) rfl ?_
    refine v_aload_n g dk_10_add_25 0 rfl rfl (pc' := 26) rfl ?_
    refine gfC_Selects_38 g hK dk_10_add_26 (pc' := 29) rfl ?_
    obtain ⟨q2, hq, hf⟩ := bnd hf
    refine v_callS_l (As := []) (rest := [.int (gI S 5), .ref (ad 18)]) (r := q2) (S1 := tA S 9 (gI S 5) x1) g hK hA (c_CChoices_nothing hq) (kcC_Selects_42 g.2.2.2.2 rfl rfl (Nat.le_of_ble_eq_true rfl) (Nat.le_of_ble_eq_true rfl)) rfl rfl (Nat.le_of_ble_eq_true rfl) dk_10_add_29 (Nat.zero_le _) (Nat.zero_le _) (pc' := 32) rfl ?_
    refine asC_18 g hK hb1 dk_10_add_32 (pc' := 33) rfl ?_
    refine v_aload_n g dk_10_add_33 0 rfl rfl (pc' := 34) rfl ?_
    refine v_dup g dk_10_add_34 rfl (pc' := 35) rfl ?_
    refine gfC_Selects_38 g hK dk_10_add_35 (pc' := 38) rfl ?_
    refine v_dup_x1 g dk_10_add_38 rfl rfl (pc' := 39) rfl ?_
    refine v_iconst (v := 1) g dk_10_add_39 (by decide) (pc' := 40) rfl ?_
    refine v_iadd g dk_10_add_40 (pc' := 41) rfl ?_
    refine pfC_Selects_38 g hK dk_10_add_41 (pc' := 44) rfl ?_
    exact v_iret g hr hlk hK  (Option.some.inj hf) dk_10_add_44
  · replace hf := ifF hc hf
    refine v_iconst (v := (-1)) g dk_10_add_9 (by decide) (pc' := 10) rfl ?_
    exact v_iret g hr hlk hK  (Option.some.inj hf) dk_10_add_10
abbrev rm_CX_select : Room := { frames := 2, cells := 0, slots := 0, locals := 40 }
def m_CX_select (S : StC) (x1 : Int32) : Option (Int32 × StC) :=
  (m_CTargets_isThere S x1).bind fun q1 =>
    if q1 = 0 then some ((-1), S)
    else (m_CSelects_add S x1).bind fun q2 =>
    some (q2.1, q2.2)
set_option maxHeartbeats 4000000 in
set_option maxRecDepth 100000 in
theorem c_CX_select {l : Launch} {D : va_G} {ad : Nat → Nat} {ca : Nat → ClassId} {S : StC} {x1 : Int32} {r : Int32 × StC} (hf : m_CX_select S x1 = some r) : KIC l D ad ca yk_0_select (.code yk_0_select bk_0_select 2 (some .int) :: tb) rm_CX_select [.ref (ad 0), .int x1] S r := by
  refine met_i (by decide) (Nat.le_of_ble_eq_true rfl) (fun p e s m below meth c A g hr hlk hK hA => ?_)
  replace g : CallFix p m c bk_0_select 2 s _ tb Rk_0 := g
  refine v_lv (lv' := [(0, .ref (ad 0)), (1, .int x1)]) rfl ?_
  unfold m_CX_select at hf
  refine v_aload_n g dk_0_select_0 0 rfl rfl (pc' := 1) rfl ?_
  refine gfC_X_40 g hK dk_0_select_1 (pc' := 4) rfl ?_
  refine v_iload_n g dk_0_select_4 1 rfl rfl (pc' := 5) rfl ?_
  obtain ⟨q1, hq, hf⟩ := bnd hf
  refine v_callV_i (As := [.int x1]) (rest := []) (r := q1) (S1 := S) g hK hA (c_CTargets_isThere hq) (kcC_X_121 g.2.2.2.2 rfl rfl (Nat.le_of_ble_eq_true rfl) (Nat.le_of_ble_eq_true rfl)) (ci := 9) (q0 := 13) rfl rfl rfl rfl rfl (Nat.le_of_ble_eq_true rfl) dk_0_select_5 (Nat.zero_le _) (Nat.zero_le _) (pc' := 8) rfl ?_
  refine v_if_eq (tgt := 22) (pc' := 11) g dk_0_select_8 (by decide) rfl (fun hc => ?_) (fun hc => ?_)
  · replace hf := ifT hc hf
    refine v_iconst (v := (-1)) g dk_0_select_22 (by decide) (pc' := 23) rfl ?_
    exact v_iret g hr hlk hK  (Option.some.inj hf) dk_0_select_23
  · replace hf := ifF hc hf
    refine v_aload_n g dk_0_select_11 0 rfl rfl (pc' := 12) rfl ?_
    refine gfC_X_47 g hK dk_0_select_12 (pc' := 15) rfl ?_
    refine v_iload_n g dk_0_select_15 1 rfl rfl (pc' := 16) rfl ?_
    obtain ⟨q2, hq, hf⟩ := bnd hf
    refine v_callV_i (As := [.int x1]) (rest := []) (r := q2.1) (S1 := q2.2) g hK hA (c_CSelects_add hq) (kcC_X_130 g.2.2.2.2 rfl rfl (Nat.le_of_ble_eq_true rfl) (Nat.le_of_ble_eq_true rfl)) (ci := 7) (q0 := 16) rfl rfl rfl rfl rfl (Nat.le_of_ble_eq_true rfl) dk_0_select_16 (Nat.zero_le _) (Nat.zero_le _) (pc' := 19) rfl ?_
    refine v_goto (tgt := 23) g dk_0_select_19 (by decide) ?_
    exact v_iret g hr hlk hK  (Option.some.inj hf) dk_0_select_23
abbrev rm_CSelects_isThere : Room := { frames := 0, cells := 0, slots := 0, locals := 0 }
def m_CSelects_isThere (S : StC) (x1 : Int32) : Option Int32 :=
  if x1 < 0 then some 0
    else if (gI S 5) ≤ x1 then some 0
    else some 1
set_option maxHeartbeats 4000000 in
set_option maxRecDepth 100000 in
theorem c_CSelects_isThere {l : Launch} {D : va_G} {ad : Nat → Nat} {ca : Nat → ClassId} {S : StC} {x1 : Int32} {r : Int32} (hf : m_CSelects_isThere S x1 = some r) : KIC l D ad ca yk_10_isThere (.code yk_10_isThere bk_10_isThere 2 (some .boolean) :: tb) rm_CSelects_isThere [.ref (ad 16), .int x1] S (r, S) := by
  refine met_z (by decide) (Nat.le_of_ble_eq_true rfl) (fun p e s m below meth c A g hr hlk hK hA => ?_)
  replace g : CallFix p m c bk_10_isThere 2 s _ tb Rk_10 := g
  refine v_lv (lv' := [(0, .ref (ad 16)), (1, .int x1)]) rfl ?_
  unfold m_CSelects_isThere at hf
  refine v_iload_n g dk_10_isThere_0 1 rfl rfl (pc' := 1) rfl ?_
  refine v_if_lt (tgt := 16) (pc' := 4) g dk_10_isThere_1 (by decide) rfl (fun hc => ?_) (fun hc => ?_)
  · replace hf := ifT hc hf
    refine v_iconst (v := 0) g dk_10_isThere_16 (by decide) (pc' := 17) rfl ?_
    exact v_zret g hr hlk hK rfl (pinj hf) dk_10_isThere_17
  · replace hf := ifF hc hf
    refine v_iload_n g dk_10_isThere_4 1 rfl rfl (pc' := 5) rfl ?_
    refine v_aload_n g dk_10_isThere_5 0 rfl rfl (pc' := 6) rfl ?_
    refine gfC_Selects_38 g hK dk_10_isThere_6 (pc' := 9) rfl ?_
    refine v_icmp_ge (tgt := 16) (pc' := 12) g dk_10_isThere_9 (by decide) rfl (fun hc => ?_) (fun hc => ?_)
    · replace hf := ifT hc hf
      refine v_iconst (v := 0) g dk_10_isThere_16 (by decide) (pc' := 17) rfl ?_
      exact v_zret g hr hlk hK rfl (pinj hf) dk_10_isThere_17
    · replace hf := ifF hc hf
      refine v_iconst (v := 1) g dk_10_isThere_12 (by decide) (pc' := 13) rfl ?_
      refine v_goto (tgt := 17) g dk_10_isThere_13 (by decide) ?_
      exact v_zret g hr hlk hK rfl (pinj hf) dk_10_isThere_17
abbrev rm_CSelects_mayNest : Room := { frames := 0, cells := 0, slots := 0, locals := 0 }
def m_CSelects_mayNest (S : StC) (x1 : Int32) (x2 : Int32) : Option Int32 :=
  if x2 < 0 then some 0
    else if x1 ≤ x2 then some 0
    else if inb x2 24 = true then if inb x1 24 = true then if (gA S 9 x2.toNatClampNeg) = (gA S 9 x1.toNatClampNeg) then if (gA S 11 x2.toNatClampNeg) = 0 then if (gA S 10 x1.toNatClampNeg) = 0 then some 1
    else some 0
    else some 0
    else some 0 else none else none
set_option maxHeartbeats 4000000 in
set_option maxRecDepth 100000 in
theorem c_CSelects_mayNest {l : Launch} {D : va_G} {ad : Nat → Nat} {ca : Nat → ClassId} {S : StC} {x1 : Int32} {x2 : Int32} {r : Int32} (hf : m_CSelects_mayNest S x1 x2 = some r) : KIC l D ad ca yk_10_mayNest (.code yk_10_mayNest bk_10_mayNest 3 (some .boolean) :: tb) rm_CSelects_mayNest [.ref (ad 16), .int x1, .int x2] S (r, S) := by
  refine met_z (by decide) (Nat.le_of_ble_eq_true rfl) (fun p e s m below meth c A g hr hlk hK hA => ?_)
  replace g : CallFix p m c bk_10_mayNest 3 s _ tb Rk_10 := g
  refine v_lv (lv' := [(0, .ref (ad 16)), (1, .int x1), (2, .int x2)]) rfl ?_
  unfold m_CSelects_mayNest at hf
  refine v_iload_n g dk_10_mayNest_0 2 rfl rfl (pc' := 1) rfl ?_
  refine v_if_lt (tgt := 46) (pc' := 4) g dk_10_mayNest_1 (by decide) rfl (fun hc => ?_) (fun hc => ?_)
  · replace hf := ifT hc hf
    refine v_iconst (v := 0) g dk_10_mayNest_46 (by decide) (pc' := 47) rfl ?_
    exact v_zret g hr hlk hK rfl (pinj hf) dk_10_mayNest_47
  · replace hf := ifF hc hf
    refine v_iload_n g dk_10_mayNest_4 2 rfl rfl (pc' := 5) rfl ?_
    refine v_iload_n g dk_10_mayNest_5 1 rfl rfl (pc' := 6) rfl ?_
    refine v_icmp_ge (tgt := 46) (pc' := 9) g dk_10_mayNest_6 (by decide) rfl (fun hc => ?_) (fun hc => ?_)
    · replace hf := ifT hc hf
      refine v_iconst (v := 0) g dk_10_mayNest_46 (by decide) (pc' := 47) rfl ?_
      exact v_zret g hr hlk hK rfl (pinj hf) dk_10_mayNest_47
    · replace hf := ifF hc hf
      refine v_aload_n g dk_10_mayNest_9 0 rfl rfl (pc' := 10) rfl ?_
      refine gfC_Selects_9 g hK dk_10_mayNest_10 (pc' := 13) rfl ?_
      refine v_iload_n g dk_10_mayNest_13 2 rfl rfl (pc' := 14) rfl ?_
      obtain ⟨hb1, hf⟩ := grd hf
      refine alC_17 g hK hb1 dk_10_mayNest_14 (pc' := 15) rfl ?_
      refine v_aload_n g dk_10_mayNest_15 0 rfl rfl (pc' := 16) rfl ?_
      refine gfC_Selects_9 g hK dk_10_mayNest_16 (pc' := 19) rfl ?_
      refine v_iload_n g dk_10_mayNest_19 1 rfl rfl (pc' := 20) rfl ?_
      obtain ⟨hb2, hf⟩ := grd hf
      refine alC_17 g hK hb2 dk_10_mayNest_20 (pc' := 21) rfl ?_
      refine v_icmp_ne (tgt := 46) (pc' := 24) g dk_10_mayNest_21 (by decide) rfl (fun hc => ?_) (fun hc => ?_)
      · replace hf := ifF hc hf
        refine v_iconst (v := 0) g dk_10_mayNest_46 (by decide) (pc' := 47) rfl ?_
        exact v_zret g hr hlk hK rfl (pinj hf) dk_10_mayNest_47
      · replace hf := ifT hc hf
        refine v_aload_n g dk_10_mayNest_24 0 rfl rfl (pc' := 25) rfl ?_
        refine gfC_Selects_23 g hK dk_10_mayNest_25 (pc' := 28) rfl ?_
        refine v_iload_n g dk_10_mayNest_28 2 rfl rfl (pc' := 29) rfl ?_
        refine alC_20 g hK hb1 dk_10_mayNest_29 (pc' := 30) rfl ?_
        refine v_if_ne (tgt := 46) (pc' := 33) g dk_10_mayNest_30 (by decide) rfl (fun hc => ?_) (fun hc => ?_)
        · replace hf := ifF hc hf
          refine v_iconst (v := 0) g dk_10_mayNest_46 (by decide) (pc' := 47) rfl ?_
          exact v_zret g hr hlk hK rfl (pinj hf) dk_10_mayNest_47
        · replace hf := ifT hc hf
          refine v_aload_n g dk_10_mayNest_33 0 rfl rfl (pc' := 34) rfl ?_
          refine gfC_Selects_19 g hK dk_10_mayNest_34 (pc' := 37) rfl ?_
          refine v_iload_n g dk_10_mayNest_37 1 rfl rfl (pc' := 38) rfl ?_
          refine alC_19 g hK hb2 dk_10_mayNest_38 (pc' := 39) rfl ?_
          refine v_if_ne (tgt := 46) (pc' := 42) g dk_10_mayNest_39 (by decide) rfl (fun hc => ?_) (fun hc => ?_)
          · replace hf := ifF hc hf
            refine v_iconst (v := 0) g dk_10_mayNest_46 (by decide) (pc' := 47) rfl ?_
            exact v_zret g hr hlk hK rfl (pinj hf) dk_10_mayNest_47
          · replace hf := ifT hc hf
            refine v_iconst (v := 1) g dk_10_mayNest_42 (by decide) (pc' := 43) rfl ?_
            refine v_goto (tgt := 47) g dk_10_mayNest_43 (by decide) ?_
            exact v_zret g hr hlk hK rfl (pinj hf) dk_10_mayNest_47
abbrev rm_CSelects_place : Room := { frames := 0, cells := 0, slots := 0, locals := 0 }
def m_CSelects_place (S : StC) (x0 : Int32) (x1 : Int32) : Option Int32 :=
  some ((x0 * (8 : Int32)) + x1)
set_option maxHeartbeats 4000000 in
set_option maxRecDepth 100000 in
theorem c_CSelects_place {l : Launch} {D : va_G} {ad : Nat → Nat} {ca : Nat → ClassId} {S : StC} {x0 : Int32} {x1 : Int32} {r : Int32} (hf : m_CSelects_place S x0 x1 = some r) : KIC l D ad ca yk_10_place (.code yk_10_place bk_10_place 2 (some .int) :: tb) rm_CSelects_place [.int x0, .int x1] S (r, S) := by
  refine met_i (by decide) (Nat.le_of_ble_eq_true rfl) (fun p e s m below meth c A g hr hlk hK hA => ?_)
  replace g : CallFix p m c bk_10_place 2 s _ tb Rk_10 := g
  refine v_lv (lv' := [(0, .int x0), (1, .int x1)]) rfl ?_
  unfold m_CSelects_place at hf
  refine v_iload_n g dk_10_place_0 0 rfl rfl (pc' := 1) rfl ?_
  refine v_bipush (v := 8) g dk_10_place_1 (by decide) (pc' := 3) rfl ?_
  refine v_imul g dk_10_place_3 (pc' := 4) rfl ?_
  refine v_iload_n g dk_10_place_4 1 rfl rfl (pc' := 5) rfl ?_
  refine v_iadd g dk_10_place_5 (pc' := 6) rfl ?_
  exact v_iret g hr hlk hK  (pinj hf) dk_10_place_6
abbrev rm_CSelects_addBranch : Room := { frames := 1, cells := 0, slots := 0, locals := 21 }
def m_CSelects_addBranch (S : StC) (x1 : Int32) (x2 : Int32) (x3 : Int32) (x4 : Int32) : Option (Int32 × StC) :=
  if inb x1 24 = true then if (gA S 12 x1.toNatClampNeg) < 8 then (m_CSelects_place S x1 (gA S 12 x1.toNatClampNeg)).bind fun q2 =>
    if inb q2 192 = true then if x3 = 0 then some (1, tA (tA (tA (tA S 13 q2 x2) 14 q2 (vp_nar .boolean x3)) 15 q2 x4) 12 x1 ((gA S 12 x1.toNatClampNeg) + (1 : Int32)))
    else if inb x4 24 = true then some (1, tA (tA (tA (tA (tA (tA S 13 q2 x2) 14 q2 (vp_nar .boolean x3)) 15 q2 x4) 12 x1 ((gA S 12 x1.toNatClampNeg) + (1 : Int32))) 11 x1 (vp_nar .boolean 1)) 10 x4 (vp_nar .boolean 1)) else none else none
    else some (0, S) else none
set_option maxHeartbeats 4000000 in
set_option maxRecDepth 100000 in
theorem c_CSelects_addBranch {l : Launch} {D : va_G} {ad : Nat → Nat} {ca : Nat → ClassId} {S : StC} {x1 : Int32} {x2 : Int32} {x3 : Int32} {x4 : Int32} {r : Int32 × StC} (hf : m_CSelects_addBranch S x1 x2 x3 x4 = some r) : KIC l D ad ca yk_10_addBranch (.code yk_10_addBranch bk_10_addBranch 6 (some .boolean) :: tb) rm_CSelects_addBranch [.ref (ad 16), .int x1, .int x2, .int x3, .int x4] S r := by
  refine met_z (by decide) (Nat.le_of_ble_eq_true rfl) (fun p e s m below meth c A g hr hlk hK hA => ?_)
  replace g : CallFix p m c bk_10_addBranch 6 s _ tb Rk_10 := g
  refine v_lv (lv' := [(0, .ref (ad 16)), (1, .int x1), (2, .int x2), (3, .int x3), (4, .int x4)]) rfl ?_
  unfold m_CSelects_addBranch at hf
  refine v_aload_n g dk_10_addBranch_0 0 rfl rfl (pc' := 1) rfl ?_
  refine gfC_Selects_26 g hK dk_10_addBranch_1 (pc' := 4) rfl ?_
  refine v_iload_n g dk_10_addBranch_4 1 rfl rfl (pc' := 5) rfl ?_
  obtain ⟨hb1, hf⟩ := grd hf
  refine alC_21 g hK hb1 dk_10_addBranch_5 (pc' := 6) rfl ?_
  refine v_bipush (v := 8) g dk_10_addBranch_6 (by decide) (pc' := 8) rfl ?_
  refine v_icmp_lt (tgt := 13) (pc' := 11) g dk_10_addBranch_8 (by decide) rfl (fun hc => ?_) (fun hc => ?_)
  · replace hf := ifT hc hf
    refine v_iload_n g dk_10_addBranch_13 1 rfl rfl (pc' := 14) rfl ?_
    refine v_aload_n g dk_10_addBranch_14 0 rfl rfl (pc' := 15) rfl ?_
    refine gfC_Selects_26 g hK dk_10_addBranch_15 (pc' := 18) rfl ?_
    refine v_iload_n g dk_10_addBranch_18 1 rfl rfl (pc' := 19) rfl ?_
    refine alC_21 g hK hb1 dk_10_addBranch_19 (pc' := 20) rfl ?_
    obtain ⟨q2, hq, hf⟩ := bnd hf
    refine v_callS_i (As := [.int x1, .int (gA S 12 x1.toNatClampNeg)]) (rest := []) (r := q2) (S1 := S) g hK hA (c_CSelects_place hq) (kcC_Selects_48 g.2.2.2.2 rfl rfl (Nat.le_of_ble_eq_true rfl) (Nat.le_of_ble_eq_true rfl)) rfl rfl (Nat.le_of_ble_eq_true rfl) dk_10_addBranch_20 (Nat.zero_le _) (Nat.zero_le _) (pc' := 23) rfl ?_
    refine v_istore (lv' := [(5, .int q2), (0, .ref (ad 16)), (1, .int x1), (2, .int x2), (3, .int x3), (4, .int x4)]) g dk_10_addBranch_23 (by decide) rfl (pc' := 25) rfl ?_
    refine v_aload_n g dk_10_addBranch_25 1 rfl rfl (pc' := 26) rfl ?_
    refine gfC_Selects_29 g hK dk_10_addBranch_26 (pc' := 29) rfl ?_
    refine v_iload g dk_10_addBranch_29 0 rfl (pc' := 31) rfl ?_
    refine v_iload_n g dk_10_addBranch_31 3 rfl rfl (pc' := 32) rfl ?_
    obtain ⟨hb3, hf⟩ := grd hf
    refine asC_22 g hK hb3 dk_10_addBranch_32 (pc' := 33) rfl ?_
    refine v_aload_n g dk_10_addBranch_33 1 rfl rfl (pc' := 34) rfl ?_
    refine gfC_Selects_32 g hK dk_10_addBranch_34 (pc' := 37) rfl ?_
    refine v_iload g dk_10_addBranch_37 0 rfl (pc' := 39) rfl ?_
    refine v_iload_n g dk_10_addBranch_39 4 rfl rfl (pc' := 40) rfl ?_
    refine asC_23 g hK hb3 dk_10_addBranch_40 (pc' := 41) rfl ?_
    refine v_aload_n g dk_10_addBranch_41 1 rfl rfl (pc' := 42) rfl ?_
    refine gfC_Selects_35 g hK dk_10_addBranch_42 (pc' := 45) rfl ?_
    refine v_iload g dk_10_addBranch_45 0 rfl (pc' := 47) rfl ?_
    refine v_iload g dk_10_addBranch_47 5 rfl (pc' := 49) rfl ?_
    refine asC_24 g hK hb3 dk_10_addBranch_49 (pc' := 50) rfl ?_
    refine v_aload_n g dk_10_addBranch_50 1 rfl rfl (pc' := 51) rfl ?_
    refine gfC_Selects_26 g hK dk_10_addBranch_51 (pc' := 54) rfl ?_
    refine v_iload_n g dk_10_addBranch_54 2 rfl rfl (pc' := 55) rfl ?_
    refine v_dup2 g dk_10_addBranch_55 rfl rfl (pc' := 56) rfl ?_
    refine alC_21 g hK hb1 dk_10_addBranch_56 (pc' := 57) rfl ?_
    refine v_iconst (v := 1) g dk_10_addBranch_57 (by decide) (pc' := 58) rfl ?_
    refine v_iadd g dk_10_addBranch_58 (pc' := 59) rfl ?_
    refine asC_21 g hK hb1 dk_10_addBranch_59 (pc' := 60) rfl ?_
    refine v_iload_n g dk_10_addBranch_60 4 rfl rfl (pc' := 61) rfl ?_
    refine v_if_eq (tgt := 79) (pc' := 64) g dk_10_addBranch_61 (by decide) rfl (fun hc => ?_) (fun hc => ?_)
    · replace hf := ifT hc hf
      refine v_iconst (v := 1) g dk_10_addBranch_79 (by decide) (pc' := 80) rfl ?_
      exact v_zret g hr hlk hK rfl (Option.some.inj hf) dk_10_addBranch_80
    · replace hf := ifF hc hf
      refine v_aload_n g dk_10_addBranch_64 1 rfl rfl (pc' := 65) rfl ?_
      refine gfC_Selects_23 g hK dk_10_addBranch_65 (pc' := 68) rfl ?_
      refine v_iload_n g dk_10_addBranch_68 2 rfl rfl (pc' := 69) rfl ?_
      refine v_iconst (v := 1) g dk_10_addBranch_69 (by decide) (pc' := 70) rfl ?_
      refine asC_20 g hK hb1 dk_10_addBranch_70 (pc' := 71) rfl ?_
      refine v_aload_n g dk_10_addBranch_71 1 rfl rfl (pc' := 72) rfl ?_
      refine gfC_Selects_19 g hK dk_10_addBranch_72 (pc' := 75) rfl ?_
      refine v_iload g dk_10_addBranch_75 5 rfl (pc' := 77) rfl ?_
      refine v_iconst (v := 1) g dk_10_addBranch_77 (by decide) (pc' := 78) rfl ?_
      obtain ⟨hb4, hf⟩ := grd hf
      refine asC_19 g hK hb4 dk_10_addBranch_78 (pc' := 79) rfl ?_
      refine v_iconst (v := 1) g dk_10_addBranch_79 (by decide) (pc' := 80) rfl ?_
      exact v_zret g hr hlk hK rfl (Option.some.inj hf) dk_10_addBranch_80
  · replace hf := ifF hc hf
    refine v_iconst (v := 0) g dk_10_addBranch_11 (by decide) (pc' := 12) rfl ?_
    exact v_zret g hr hlk hK rfl (Option.some.inj hf) dk_10_addBranch_12
abbrev rm_CX_branch : Room := { frames := 2, cells := 0, slots := 0, locals := 46 }
def m_CX_branch (S : StC) (x1 : Int32) (x2 : Int32) (x3 : Int32) (x4 : Int32) : Option (Int32 × StC) :=
  (m_CSelects_isThere S x1).bind fun q1 =>
    if q1 = 0 then some (0, S)
    else (m_CConditions_isThere S x2).bind fun q2 =>
    if q2 = 0 then some (0, S)
    else if x3 = 0 then (m_CSelects_addBranch S x1 x2 x3 x4).bind fun q3 =>
    if q3.1 = 0 then some (0, q3.2)
    else if inb x2 40 = true then some (1, tA q3.2 6 x2 (vp_nar .boolean 1)) else none
    else (m_CSelects_mayNest S x1 x4).bind fun q5 =>
    if q5 = 0 then some (0, S)
    else (m_CSelects_addBranch S x1 x2 x3 x4).bind fun q6 =>
    if q6.1 = 0 then some (0, q6.2)
    else if inb x2 40 = true then some (1, tA q6.2 6 x2 (vp_nar .boolean 1)) else none
set_option maxHeartbeats 4000000 in
set_option maxRecDepth 100000 in
theorem c_CX_branch {l : Launch} {D : va_G} {ad : Nat → Nat} {ca : Nat → ClassId} {S : StC} {x1 : Int32} {x2 : Int32} {x3 : Int32} {x4 : Int32} {r : Int32 × StC} (hf : m_CX_branch S x1 x2 x3 x4 = some r) : KIC l D ad ca yk_0_branch (.code yk_0_branch bk_0_branch 5 (some .boolean) :: tb) rm_CX_branch [.ref (ad 0), .int x1, .int x2, .int x3, .int x4] S r := by
  refine met_z (by decide) (Nat.le_of_ble_eq_true rfl) (fun p e s m below meth c A g hr hlk hK hA => ?_)
  replace g : CallFix p m c bk_0_branch 5 s _ tb Rk_0 := g
  refine v_lv (lv' := [(0, .ref (ad 0)), (1, .int x1), (2, .int x2), (3, .int x3), (4, .int x4)]) rfl ?_
  unfold m_CX_branch at hf
  refine v_aload_n g dk_0_branch_0 0 rfl rfl (pc' := 1) rfl ?_
  refine gfC_X_47 g hK dk_0_branch_1 (pc' := 4) rfl ?_
  refine v_iload_n g dk_0_branch_4 1 rfl rfl (pc' := 5) rfl ?_
  obtain ⟨q1, hq, hf⟩ := bnd hf
  refine v_callV_i (As := [.int x1]) (rest := []) (r := q1) (S1 := S) g hK hA (c_CSelects_isThere hq) (kcC_X_132 g.2.2.2.2 rfl rfl (Nat.le_of_ble_eq_true rfl) (Nat.le_of_ble_eq_true rfl)) (ci := 7) (q0 := 16) rfl rfl rfl rfl rfl (Nat.le_of_ble_eq_true rfl) dk_0_branch_5 (Nat.zero_le _) (Nat.zero_le _) (pc' := 8) rfl ?_
  refine v_if_eq (tgt := 22) (pc' := 11) g dk_0_branch_8 (by decide) rfl (fun hc => ?_) (fun hc => ?_)
  · replace hf := ifT hc hf
    refine v_iconst (v := 0) g dk_0_branch_22 (by decide) (pc' := 23) rfl ?_
    exact v_zret g hr hlk hK rfl (Option.some.inj hf) dk_0_branch_23
  · replace hf := ifF hc hf
    refine v_aload_n g dk_0_branch_11 0 rfl rfl (pc' := 12) rfl ?_
    refine gfC_X_33 g hK dk_0_branch_12 (pc' := 15) rfl ?_
    refine v_iload_n g dk_0_branch_15 2 rfl rfl (pc' := 16) rfl ?_
    obtain ⟨q2, hq, hf⟩ := bnd hf
    refine v_callV_i (As := [.int x2]) (rest := []) (r := q2) (S1 := S) g hK hA (c_CConditions_isThere hq) (kcC_X_108 g.2.2.2.2 rfl rfl (Nat.le_of_ble_eq_true rfl) (Nat.le_of_ble_eq_true rfl)) (ci := 2) (q0 := 9) rfl rfl rfl rfl rfl (Nat.le_of_ble_eq_true rfl) dk_0_branch_16 (Nat.zero_le _) (Nat.zero_le _) (pc' := 19) rfl ?_
    refine v_if_ne (tgt := 24) (pc' := 22) g dk_0_branch_19 (by decide) rfl (fun hc => ?_) (fun hc => ?_)
    · replace hf := ifF hc hf
      refine v_iload_n g dk_0_branch_24 3 rfl rfl (pc' := 25) rfl ?_
      refine v_if_eq (tgt := 43) (pc' := 28) g dk_0_branch_25 (by decide) rfl (fun hc => ?_) (fun hc => ?_)
      · replace hf := ifT hc hf
        refine v_aload_n g dk_0_branch_43 0 rfl rfl (pc' := 44) rfl ?_
        refine gfC_X_47 g hK dk_0_branch_44 (pc' := 47) rfl ?_
        refine v_iload_n g dk_0_branch_47 1 rfl rfl (pc' := 48) rfl ?_
        refine v_iload_n g dk_0_branch_48 2 rfl rfl (pc' := 49) rfl ?_
        refine v_iload_n g dk_0_branch_49 3 rfl rfl (pc' := 50) rfl ?_
        refine v_iload g dk_0_branch_50 4 rfl (pc' := 52) rfl ?_
        obtain ⟨q3, hq, hf⟩ := bnd hf
        refine v_callV_i (As := [.int x1, .int x2, .int x3, .int x4]) (rest := []) (r := q3.1) (S1 := q3.2) g hK hA (c_CSelects_addBranch hq) (kcC_X_136 g.2.2.2.2 rfl rfl (Nat.le_of_ble_eq_true rfl) (Nat.le_of_ble_eq_true rfl)) (ci := 7) (q0 := 16) rfl rfl rfl rfl rfl (Nat.le_of_ble_eq_true rfl) dk_0_branch_52 (Nat.zero_le _) (Nat.zero_le _) (pc' := 55) rfl ?_
        refine v_if_ne (tgt := 60) (pc' := 58) g dk_0_branch_55 (by decide) rfl (fun hc => ?_) (fun hc => ?_)
        · replace hf := ifF hc hf
          refine v_aload_n g dk_0_branch_60 0 rfl rfl (pc' := 61) rfl ?_
          refine gfC_X_33 g hK dk_0_branch_61 (pc' := 64) rfl ?_
          refine gfC_X_126 g hK dk_0_branch_64 (pc' := 67) rfl ?_
          refine v_iload_n g dk_0_branch_67 2 rfl rfl (pc' := 68) rfl ?_
          refine v_iconst (v := 1) g dk_0_branch_68 (by decide) (pc' := 69) rfl ?_
          obtain ⟨hb4, hf⟩ := grd hf
          refine asC_12 g hK hb4 dk_0_branch_69 (pc' := 70) rfl ?_
          refine v_iconst (v := 1) g dk_0_branch_70 (by decide) (pc' := 71) rfl ?_
          exact v_zret g hr hlk hK rfl (Option.some.inj hf) dk_0_branch_71
        · replace hf := ifT hc hf
          refine v_iconst (v := 0) g dk_0_branch_58 (by decide) (pc' := 59) rfl ?_
          exact v_zret g hr hlk hK rfl (Option.some.inj hf) dk_0_branch_59
      · replace hf := ifF hc hf
        refine v_aload_n g dk_0_branch_28 0 rfl rfl (pc' := 29) rfl ?_
        refine gfC_X_47 g hK dk_0_branch_29 (pc' := 32) rfl ?_
        refine v_iload_n g dk_0_branch_32 1 rfl rfl (pc' := 33) rfl ?_
        refine v_iload g dk_0_branch_33 4 rfl (pc' := 35) rfl ?_
        obtain ⟨q5, hq, hf⟩ := bnd hf
        refine v_callV_i (As := [.int x1, .int x4]) (rest := []) (r := q5) (S1 := S) g hK hA (c_CSelects_mayNest hq) (kcC_X_133 g.2.2.2.2 rfl rfl (Nat.le_of_ble_eq_true rfl) (Nat.le_of_ble_eq_true rfl)) (ci := 7) (q0 := 16) rfl rfl rfl rfl rfl (Nat.le_of_ble_eq_true rfl) dk_0_branch_35 (Nat.zero_le _) (Nat.zero_le _) (pc' := 38) rfl ?_
        refine v_if_ne (tgt := 43) (pc' := 41) g dk_0_branch_38 (by decide) rfl (fun hc => ?_) (fun hc => ?_)
        · replace hf := ifF hc hf
          refine v_aload_n g dk_0_branch_43 0 rfl rfl (pc' := 44) rfl ?_
          refine gfC_X_47 g hK dk_0_branch_44 (pc' := 47) rfl ?_
          refine v_iload_n g dk_0_branch_47 1 rfl rfl (pc' := 48) rfl ?_
          refine v_iload_n g dk_0_branch_48 2 rfl rfl (pc' := 49) rfl ?_
          refine v_iload_n g dk_0_branch_49 3 rfl rfl (pc' := 50) rfl ?_
          refine v_iload g dk_0_branch_50 4 rfl (pc' := 52) rfl ?_
          obtain ⟨q6, hq, hf⟩ := bnd hf
          refine v_callV_i (As := [.int x1, .int x2, .int x3, .int x4]) (rest := []) (r := q6.1) (S1 := q6.2) g hK hA (c_CSelects_addBranch hq) (kcC_X_136 g.2.2.2.2 rfl rfl (Nat.le_of_ble_eq_true rfl) (Nat.le_of_ble_eq_true rfl)) (ci := 7) (q0 := 16) rfl rfl rfl rfl rfl (Nat.le_of_ble_eq_true rfl) dk_0_branch_52 (Nat.zero_le _) (Nat.zero_le _) (pc' := 55) rfl ?_
          refine v_if_ne (tgt := 60) (pc' := 58) g dk_0_branch_55 (by decide) rfl (fun hc => ?_) (fun hc => ?_)
          · replace hf := ifF hc hf
            refine v_aload_n g dk_0_branch_60 0 rfl rfl (pc' := 61) rfl ?_
            refine gfC_X_33 g hK dk_0_branch_61 (pc' := 64) rfl ?_
            refine gfC_X_126 g hK dk_0_branch_64 (pc' := 67) rfl ?_
            refine v_iload_n g dk_0_branch_67 2 rfl rfl (pc' := 68) rfl ?_
            refine v_iconst (v := 1) g dk_0_branch_68 (by decide) (pc' := 69) rfl ?_
            obtain ⟨hb7, hf⟩ := grd hf
            refine asC_12 g hK hb7 dk_0_branch_69 (pc' := 70) rfl ?_
            refine v_iconst (v := 1) g dk_0_branch_70 (by decide) (pc' := 71) rfl ?_
            exact v_zret g hr hlk hK rfl (Option.some.inj hf) dk_0_branch_71
          · replace hf := ifT hc hf
            refine v_iconst (v := 0) g dk_0_branch_58 (by decide) (pc' := 59) rfl ?_
            exact v_zret g hr hlk hK rfl (Option.some.inj hf) dk_0_branch_59
        · replace hf := ifT hc hf
          refine v_iconst (v := 0) g dk_0_branch_41 (by decide) (pc' := 42) rfl ?_
          exact v_zret g hr hlk hK rfl (Option.some.inj hf) dk_0_branch_42
    · replace hf := ifT hc hf
      refine v_iconst (v := 0) g dk_0_branch_22 (by decide) (pc' := 23) rfl ?_
      exact v_zret g hr hlk hK rfl (Option.some.inj hf) dk_0_branch_23
abbrev rm_CChoices_ofValue : Room := { frames := 0, cells := 0, slots := 0, locals := 0 }
def m_CChoices_ofValue (S : StC) (x0 : Int32) : Option Int64 :=
  some ((4294967296 : Int64) ||| (x0.toInt64 &&& (4294967295 : Int64)))
set_option maxHeartbeats 4000000 in
set_option maxRecDepth 100000 in
theorem c_CChoices_ofValue {l : Launch} {D : va_G} {ad : Nat → Nat} {ca : Nat → ClassId} {S : StC} {x0 : Int32} {r : Int64} (hf : m_CChoices_ofValue S x0 = some r) : KLC l D ad ca yk_3_ofValue (.code yk_3_ofValue bk_3_ofValue 1 (some .long) :: tb) rm_CChoices_ofValue [.int x0] S (r, S) := by
  refine met_l (by decide) (Nat.le_of_ble_eq_true rfl) (fun p e s m below meth c A g hr hlk hK hA => ?_)
  replace g : CallFix p m c bk_3_ofValue 1 s _ tb Rk_3 := g
  refine v_lv (lv' := [(0, .int x0)]) rfl ?_
  unfold m_CChoices_ofValue at hf
  refine v_ldc2 g dk_3_ofValue_0 lcC_Choices_11 (pc' := 3) rfl ?_
  refine v_iload_n g dk_3_ofValue_3 0 rfl rfl (pc' := 4) rfl ?_
  refine v_i2l g dk_3_ofValue_4 (pc' := 5) rfl ?_
  refine v_ldc2 g dk_3_ofValue_5 lcC_Choices_13 (pc' := 8) rfl ?_
  refine v_land g dk_3_ofValue_8 (pc' := 9) rfl ?_
  refine v_lor g dk_3_ofValue_9 (pc' := 10) rfl ?_
  exact v_lret g hr hlk hK  (pinj hf) dk_3_ofValue_10
abbrev rm_CX_otherwise : Room := { frames := 1, cells := 0, slots := 0, locals := 21 }
def m_CX_otherwise (S : StC) (x1 : Int32) (x2 : Int32) : Option (Int32 × StC) :=
  (m_CSelects_isThere S x1).bind fun q1 =>
    if q1 = 0 then some (0, S)
    else (m_CChoices_ofValue S x2).bind fun q2 =>
    if inb x1 24 = true then some (1, tB S 1 x1 q2) else none
set_option maxHeartbeats 4000000 in
set_option maxRecDepth 100000 in
theorem c_CX_otherwise {l : Launch} {D : va_G} {ad : Nat → Nat} {ca : Nat → ClassId} {S : StC} {x1 : Int32} {x2 : Int32} {r : Int32 × StC} (hf : m_CX_otherwise S x1 x2 = some r) : KIC l D ad ca yk_0_otherwise (.code yk_0_otherwise bk_0_otherwise 3 (some .boolean) :: tb) rm_CX_otherwise [.ref (ad 0), .int x1, .int x2] S r := by
  refine met_z (by decide) (Nat.le_of_ble_eq_true rfl) (fun p e s m below meth c A g hr hlk hK hA => ?_)
  replace g : CallFix p m c bk_0_otherwise 3 s _ tb Rk_0 := g
  refine v_lv (lv' := [(0, .ref (ad 0)), (1, .int x1), (2, .int x2)]) rfl ?_
  unfold m_CX_otherwise at hf
  refine v_aload_n g dk_0_otherwise_0 0 rfl rfl (pc' := 1) rfl ?_
  refine gfC_X_47 g hK dk_0_otherwise_1 (pc' := 4) rfl ?_
  refine v_iload_n g dk_0_otherwise_4 1 rfl rfl (pc' := 5) rfl ?_
  obtain ⟨q1, hq, hf⟩ := bnd hf
  refine v_callV_i (As := [.int x1]) (rest := []) (r := q1) (S1 := S) g hK hA (c_CSelects_isThere hq) (kcC_X_132 g.2.2.2.2 rfl rfl (Nat.le_of_ble_eq_true rfl) (Nat.le_of_ble_eq_true rfl)) (ci := 7) (q0 := 16) rfl rfl rfl rfl rfl (Nat.le_of_ble_eq_true rfl) dk_0_otherwise_5 (Nat.zero_le _) (Nat.zero_le _) (pc' := 8) rfl ?_
  refine v_if_ne (tgt := 13) (pc' := 11) g dk_0_otherwise_8 (by decide) rfl (fun hc => ?_) (fun hc => ?_)
  · replace hf := ifF hc hf
    refine v_aload_n g dk_0_otherwise_13 0 rfl rfl (pc' := 14) rfl ?_
    refine gfC_X_47 g hK dk_0_otherwise_14 (pc' := 17) rfl ?_
    refine gfC_X_140 g hK dk_0_otherwise_17 (pc' := 20) rfl ?_
    refine v_iload_n g dk_0_otherwise_20 1 rfl rfl (pc' := 21) rfl ?_
    refine v_iload_n g dk_0_otherwise_21 2 rfl rfl (pc' := 22) rfl ?_
    obtain ⟨q2, hq, hf⟩ := bnd hf
    refine v_callS_l (As := [.int x2]) (rest := [.int x1, .ref (ad 18)]) (r := q2) (S1 := S) g hK hA (c_CChoices_ofValue hq) (kcC_X_144 g.2.2.2.2 rfl rfl (Nat.le_of_ble_eq_true rfl) (Nat.le_of_ble_eq_true rfl)) rfl rfl (Nat.le_of_ble_eq_true rfl) dk_0_otherwise_22 (Nat.zero_le _) (Nat.zero_le _) (pc' := 25) rfl ?_
    obtain ⟨hb3, hf⟩ := grd hf
    refine asC_18 g hK hb3 dk_0_otherwise_25 (pc' := 26) rfl ?_
    refine v_iconst (v := 1) g dk_0_otherwise_26 (by decide) (pc' := 27) rfl ?_
    exact v_zret g hr hlk hK rfl (Option.some.inj hf) dk_0_otherwise_27
  · replace hf := ifT hc hf
    refine v_iconst (v := 0) g dk_0_otherwise_11 (by decide) (pc' := 12) rfl ?_
    exact v_zret g hr hlk hK rfl (Option.some.inj hf) dk_0_otherwise_12
abbrev rm_CCodes_onPlatform : Room := { frames := 0, cells := 0, slots := 0, locals := 0 }
def m_CCodes_onPlatform (S : StC) (x0 : Int32) : Option Int64 :=
  some (x0.toInt64 <<< ((48 : Int32).toInt64 &&& 63))
set_option maxHeartbeats 4000000 in
set_option maxRecDepth 100000 in
theorem c_CCodes_onPlatform {l : Launch} {D : va_G} {ad : Nat → Nat} {ca : Nat → ClassId} {S : StC} {x0 : Int32} {r : Int64} (hf : m_CCodes_onPlatform S x0 = some r) : KLC l D ad ca yk_4_onPlatform (.code yk_4_onPlatform bk_4_onPlatform 1 (some .long) :: tb) rm_CCodes_onPlatform [.int x0] S (r, S) := by
  refine met_l (by decide) (Nat.le_of_ble_eq_true rfl) (fun p e s m below meth c A g hr hlk hK hA => ?_)
  replace g : CallFix p m c bk_4_onPlatform 1 s _ tb Rk_4 := g
  refine v_lv (lv' := [(0, .int x0)]) rfl ?_
  unfold m_CCodes_onPlatform at hf
  refine v_iload_n g dk_4_onPlatform_0 0 rfl rfl (pc' := 1) rfl ?_
  refine v_i2l g dk_4_onPlatform_1 (pc' := 2) rfl ?_
  refine v_bipush (v := 48) g dk_4_onPlatform_2 (by decide) (pc' := 4) rfl ?_
  refine v_lshl g dk_4_onPlatform_4 (pc' := 5) rfl ?_
  exact v_lret g hr hlk hK  (pinj hf) dk_4_onPlatform_5
abbrev rm_CX_hasBit : Room := { frames := 0, cells := 0, slots := 0, locals := 0 }
def m_CX_hasBit (S : StC) (x0 : Int32) (x1 : Int32) : Option Int32 :=
  if (((x0.toUInt32 >>> (x1.toUInt32 &&& Int32.toUInt32 31)).toInt32) &&& (1 : Int32)) = 0 then some 0
    else some 1
set_option maxHeartbeats 4000000 in
set_option maxRecDepth 100000 in
theorem c_CX_hasBit {l : Launch} {D : va_G} {ad : Nat → Nat} {ca : Nat → ClassId} {S : StC} {x0 : Int32} {x1 : Int32} {r : Int32} (hf : m_CX_hasBit S x0 x1 = some r) : KIC l D ad ca yk_0_hasBit (.code yk_0_hasBit bk_0_hasBit 2 (some .boolean) :: tb) rm_CX_hasBit [.int x0, .int x1] S (r, S) := by
  refine met_z (by decide) (Nat.le_of_ble_eq_true rfl) (fun p e s m below meth c A g hr hlk hK hA => ?_)
  replace g : CallFix p m c bk_0_hasBit 2 s _ tb Rk_0 := g
  refine v_lv (lv' := [(0, .int x0), (1, .int x1)]) rfl ?_
  unfold m_CX_hasBit at hf
  refine v_iload_n g dk_0_hasBit_0 0 rfl rfl (pc' := 1) rfl ?_
  refine v_iload_n g dk_0_hasBit_1 1 rfl rfl (pc' := 2) rfl ?_
  refine v_iushr g dk_0_hasBit_2 (pc' := 3) rfl ?_
  refine v_iconst (v := 1) g dk_0_hasBit_3 (by decide) (pc' := 4) rfl ?_
  refine v_iand g dk_0_hasBit_4 (pc' := 5) rfl ?_
  refine v_if_eq (tgt := 12) (pc' := 8) g dk_0_hasBit_5 (by decide) rfl (fun hc => ?_) (fun hc => ?_)
  · replace hf := ifT hc hf
    refine v_iconst (v := 0) g dk_0_hasBit_12 (by decide) (pc' := 13) rfl ?_
    exact v_zret g hr hlk hK rfl (pinj hf) dk_0_hasBit_13
  · replace hf := ifF hc hf
    refine v_iconst (v := 1) g dk_0_hasBit_8 (by decide) (pc' := 9) rfl ?_
    refine v_goto (tgt := 13) g dk_0_hasBit_9 (by decide) ?_
    exact v_zret g hr hlk hK rfl (pinj hf) dk_0_hasBit_13
abbrev rm_CX_trimmed : Room := { frames := 1, cells := 0, slots := 0, locals := 24 }
def L_CX_trimmed_6 (S : StC) (x3 : Int32) : Nat → Int64 → Int32 → Option (Int64)
  | 0, _, _ => none
  | n + 1, x4, x6 =>
    if (gI S 0) ≤ x6 then some x4
    else (m_CX_hasBit S x3 x6).bind fun q1 =>
    if q1 = 0 then if inb x6 16 = true then (m_CCodes_withValue S x4 x6 (gA S 1 x6.toNatClampNeg)).bind fun q3 =>
    L_CX_trimmed_6 S x3 n q3 (x6 + 1) else none
    else L_CX_trimmed_6 S x3 n x4 (x6 + 1)
set_option maxHeartbeats 4000000 in
set_option maxRecDepth 100000 in
theorem w_CX_trimmed_6 {p : Program} {l : Launch} {e : Env} {s : State} {m : MethodId} {args : Array Value} {below : List Frame} {meth : Method} {c : Code} {A : Nat → Prop} {D : va_G} {ad : Nat → Nat} {ca : Nat → ClassId} {Rm : Int64 × StC} {S : StC} {x3 : Int32} (g : CallFix p m c bk_0_trimmed 7 s args tb Rk_0) (hr : meth.sig.returnType = some .long) (hlk : meth.locks = false) (hK : va_K D vwCl (tyC ca) s) (hA : ∀ q, s.heap.size ≤ q → A q) : ∀ (n : Nat) (x4 : Int64) (x6 : Int32) (o : Int64), L_CX_trimmed_6 S x3 n x4 x6 = some o → (Vj p l e rm_CX_trimmed s m args below meth c (MQ below (qL D vwCl (tyC ca) (wdC ad ca) A Rm) args s 0 0 A) D vwCl A 7 0 0 (wdC ad ca S) 52 [(4, .long o)] []) → Vj p l e rm_CX_trimmed s m args below meth c (MQ below (qL D vwCl (tyC ca) (wdC ad ca) A Rm) args s 0 0 A) D vwCl A 7 0 0 (wdC ad ca S) 6 [(0, .ref (ad 0)), (3, .int x3), (4, .long x4), (6, .int x6)] [] := by
  intro n
  induction n with
  | zero => intro x4 x6 o hf; exact nomatch (show none = some o from hf)
  | succ n ih =>
    intro x4 x6 o hf hx
    rw [L_CX_trimmed_6] at hf
    refine v_iload g dk_0_trimmed_6 3 rfl (pc' := 8) rfl ?_
    refine v_aload_n g dk_0_trimmed_8 0 rfl rfl (pc' := 9) rfl ?_
    refine gfC_X_12 g hK dk_0_trimmed_9 (pc' := 12) rfl ?_
    refine gfC_X_310 g hK dk_0_trimmed_12 (pc' := 15) rfl ?_
    refine v_icmp_ge (tgt := 52) (pc' := 18) g dk_0_trimmed_15 (by decide) rfl (fun hc => ?_) (fun hc => ?_)
    · replace hf := ifT hc hf
      refine v_sub [2] rfl ?_
      have e9 := Option.some.inj hf
      subst e9
      exact hx
    · replace hf := ifF hc hf
      refine v_iload_n g dk_0_trimmed_18 1 rfl rfl (pc' := 19) rfl ?_
      refine v_iload g dk_0_trimmed_19 3 rfl (pc' := 21) rfl ?_
      obtain ⟨q1, hq, hf⟩ := bnd hf
      refine v_callS_i (As := [.int x3, .int x6]) (rest := []) (r := q1) (S1 := S) g hK hA (c_CX_hasBit hq) (kcC_X_269 g.2.2.2.2 rfl rfl (Nat.le_of_ble_eq_true rfl) (Nat.le_of_ble_eq_true rfl)) rfl rfl (Nat.le_of_ble_eq_true rfl) dk_0_trimmed_21 (Nat.zero_le _) (Nat.zero_le _) (pc' := 24) rfl ?_
      refine v_if_ne (tgt := 46) (pc' := 27) g dk_0_trimmed_24 (by decide) rfl (fun hc => ?_) (fun hc => ?_)
      · replace hf := ifF hc hf
        refine v_iinc (j := 3) (v := x6 + 1) (lv' := [(6, .int (x6 + 1)), (0, .ref (ad 0)), (3, .int x3), (4, .long x4)]) g dk_0_trimmed_46 rfl rfl (by decide) rfl (pc' := 49) rfl ?_
        refine v_goto (tgt := 6) g dk_0_trimmed_49 (by decide) ?_
        refine v_sub [1, 2, 3, 0] rfl ?_
        exact ih x4 (x6 + 1) o hf hx
      · replace hf := ifT hc hf
        refine v_lload g dk_0_trimmed_27 2 rfl (pc' := 29) rfl ?_
        refine v_iload g dk_0_trimmed_29 3 rfl (pc' := 31) rfl ?_
        refine v_aload_n g dk_0_trimmed_31 0 rfl rfl (pc' := 32) rfl ?_
        refine gfC_X_12 g hK dk_0_trimmed_32 (pc' := 35) rfl ?_
        refine gfC_X_311 g hK dk_0_trimmed_35 (pc' := 38) rfl ?_
        refine v_iload g dk_0_trimmed_38 3 rfl (pc' := 40) rfl ?_
        obtain ⟨hb2, hf⟩ := grd hf
        refine alC_3 g hK hb2 dk_0_trimmed_40 (pc' := 41) rfl ?_
        obtain ⟨q3, hq, hf⟩ := bnd hf
        refine v_callS_l (As := [.long x4, .int x6, .int (gA S 1 x6.toNatClampNeg)]) (rest := []) (r := q3) (S1 := S) g hK hA (c_CCodes_withValue hq) (kcC_X_168 g.2.2.2.2 rfl rfl (Nat.le_of_ble_eq_true rfl) (Nat.le_of_ble_eq_true rfl)) rfl rfl (Nat.le_of_ble_eq_true rfl) dk_0_trimmed_41 (Nat.zero_le _) (Nat.zero_le _) (pc' := 44) rfl ?_
        refine v_lstore (lv' := [(4, .long q3), (0, .ref (ad 0)), (3, .int x3), (6, .int x6)]) g dk_0_trimmed_44 (by decide) rfl (pc' := 46) rfl ?_
        refine v_iinc (j := 3) (v := x6 + 1) (lv' := [(6, .int (x6 + 1)), (4, .long q3), (0, .ref (ad 0)), (3, .int x3)]) g dk_0_trimmed_46 rfl rfl (by decide) rfl (pc' := 49) rfl ?_
        refine v_goto (tgt := 6) g dk_0_trimmed_49 (by decide) ?_
        refine v_sub [2, 3, 1, 0] rfl ?_
        exact ih q3 (x6 + 1) o hf hx
def m_CX_trimmed (S : StC) (x1 : Int64) (x3 : Int32) : Option Int64 :=
  (L_CX_trimmed_6 S x3 100 x1 0).bind fun y5 =>
    some y5
set_option maxHeartbeats 4000000 in
set_option maxRecDepth 100000 in
theorem c_CX_trimmed {l : Launch} {D : va_G} {ad : Nat → Nat} {ca : Nat → ClassId} {S : StC} {x1 : Int64} {x3 : Int32} {r : Int64} (hf : m_CX_trimmed S x1 x3 = some r) : KLC l D ad ca yk_0_trimmed (.code yk_0_trimmed bk_0_trimmed 7 (some .long) :: tb) rm_CX_trimmed [.ref (ad 0), .long x1, .int x3] S (r, S) := by
  refine met_l (by decide) (Nat.le_of_ble_eq_true rfl) (fun p e s m below meth c A g hr hlk hK hA => ?_)
  replace g : CallFix p m c bk_0_trimmed 7 s _ tb Rk_0 := g
  refine v_lv (lv' := [(0, .ref (ad 0)), (1, .long x1), (3, .int x3)]) rfl ?_
  unfold m_CX_trimmed at hf
  refine v_lload_n g dk_0_trimmed_0 1 rfl rfl (pc' := 1) rfl ?_
  refine v_lstore (lv' := [(4, .long x1), (0, .ref (ad 0)), (1, .long x1), (3, .int x3)]) g dk_0_trimmed_1 (by decide) rfl (pc' := 3) rfl ?_
  refine v_iconst (v := 0) g dk_0_trimmed_3 (by decide) (pc' := 4) rfl ?_
  refine v_istore (lv' := [(6, .int 0), (4, .long x1), (0, .ref (ad 0)), (1, .long x1), (3, .int x3)]) g dk_0_trimmed_4 (by decide) rfl (pc' := 6) rfl ?_
  refine v_sub [2, 4, 1, 0] rfl ?_
  obtain ⟨y5, hL, hf⟩ := bnd hf
  refine w_CX_trimmed_6 g hr hlk hK hA 100 x1 0 _ hL ?_
  refine v_lload g dk_0_trimmed_52 0 rfl (pc' := 54) rfl ?_
  exact v_lret g hr hlk hK  (pinj hf) dk_0_trimmed_54
