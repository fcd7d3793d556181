abbrev rm_CX_chosen : Room := { frames := 1, cells := 0, slots := 0, locals := 21 }
def m_CX_chosen (S : StC) (x1 : Int32) : Option Int32 :=
  (m_CChoices_kindOf S (gL S 0)).bind fun q1 =>
    if q1 = 1 then if x1 = 0 then (m_CChoices_valueOf S (gL S 0)).bind fun q8 =>
    some q8
    else if q1 = 2 then if x1 = 0 then (m_CChoices_firstOf S (gL S 0)).bind fun q7 =>
    some q7
    else if q1 = 2 then if x1 = 1 then (m_CChoices_secondOf S (gL S 0)).bind fun q6 =>
    some q6
    else some (-1)
    else some (-1)
    else if q1 = 2 then if x1 = 1 then (m_CChoices_secondOf S (gL S 0)).bind fun q5 =>
    some q5
    else some (-1)
    else some (-1)
    else if q1 = 2 then if x1 = 0 then (m_CChoices_firstOf S (gL S 0)).bind fun q4 =>
    some q4
    else if q1 = 2 then if x1 = 1 then (m_CChoices_secondOf S (gL S 0)).bind fun q3 =>
    some q3
    else some (-1)
    else some (-1)
    else if q1 = 2 then if x1 = 1 then (m_CChoices_secondOf S (gL S 0)).bind fun q2 =>
    some q2
    else some (-1)
    else some (-1)
set_option maxHeartbeats 4000000 in
set_option maxRecDepth 100000 in
theorem c_CX_chosen {l : Launch} {D : va_G} {ad : Nat → Nat} {ca : Nat → ClassId} {S : StC} {x1 : Int32} {r : Int32} (hf : m_CX_chosen S x1 = some r) : KIC l D ad ca yk_0_chosen (.code yk_0_chosen bk_0_chosen 3 (some .int) :: tb) rm_CX_chosen [.ref (ad 0), .int x1] S (r, S) := by
  refine met_i (by decide) (Nat.le_of_ble_eq_true rfl) (fun p e s m below meth c A g hr hlk hK hA => ?_)
  replace g : CallFix p m c bk_0_chosen 3 s _ tb Rk_0 := g
  refine v_lv (lv' := [(0, .ref (ad 0)), (1, .int x1)]) rfl ?_
  unfold m_CX_chosen at hf
  refine v_aload_n g dk_0_chosen_0 0 rfl rfl (pc' := 1) rfl ?_
  refine gfC_X_71 g hK dk_0_chosen_1 (pc' := 4) rfl ?_
  obtain ⟨q1, hq, hf⟩ := bnd hf
  refine v_callS_i (As := [.long (gL S 0)]) (rest := []) (r := q1) (S1 := S) g hK hA (c_CChoices_kindOf hq) (kcC_X_184 g.2.2.2.2 rfl rfl (Nat.le_of_ble_eq_true rfl) (Nat.le_of_ble_eq_true rfl)) rfl rfl (Nat.le_of_ble_eq_true rfl) dk_0_chosen_4 (Nat.zero_le _) (Nat.zero_le _) (pc' := 7) rfl ?_
  refine v_istore_n (lv' := [(2, .int q1), (0, .ref (ad 0)), (1, .int x1)]) g dk_0_chosen_7 rfl (by decide) rfl (pc' := 8) rfl ?_
  refine v_iload_n g dk_0_chosen_8 0 rfl rfl (pc' := 9) rfl ?_
  refine v_iconst (v := 1) g dk_0_chosen_9 (by decide) (pc' := 10) rfl ?_
  refine v_icmp_ne (tgt := 25) (pc' := 13) g dk_0_chosen_10 (by decide) rfl (fun hc => ?_) (fun hc => ?_)
  · replace hf := ifF hc hf
    refine v_iload_n g dk_0_chosen_25 0 rfl rfl (pc' := 26) rfl ?_
    refine v_iconst (v := 2) g dk_0_chosen_26 (by decide) (pc' := 27) rfl ?_
    refine v_icmp_ne (tgt := 42) (pc' := 30) g dk_0_chosen_27 (by decide) rfl (fun hc => ?_) (fun hc => ?_)
    · replace hf := ifF hc hf
      refine v_iload_n g dk_0_chosen_42 0 rfl rfl (pc' := 43) rfl ?_
      refine v_iconst (v := 2) g dk_0_chosen_43 (by decide) (pc' := 44) rfl ?_
      refine v_icmp_ne (tgt := 60) (pc' := 47) g dk_0_chosen_44 (by decide) rfl (fun hc => ?_) (fun hc => ?_)
      · replace hf := ifF hc hf
        refine v_iconst (v := (-1)) g dk_0_chosen_60 (by decide) (pc' := 61) rfl ?_
        exact v_iret g hr hlk hK  (pinj hf) dk_0_chosen_61
      · replace hf := ifT hc hf
        refine v_iload_n g dk_0_chosen_47 2 rfl rfl (pc' := 48) rfl ?_
        refine v_iconst (v := 1) g dk_0_chosen_48 (by decide) (pc' := 49) rfl ?_
        refine v_icmp_ne (tgt := 60) (pc' := 52) g dk_0_chosen_49 (by decide) rfl (fun hc => ?_) (fun hc => ?_)
        · replace hf := ifF hc hf
          refine v_iconst (v := (-1)) g dk_0_chosen_60 (by decide) (pc' := 61) rfl ?_
          exact v_iret g hr hlk hK  (pinj hf) dk_0_chosen_61
        · replace hf := ifT hc hf
          refine v_aload_n g dk_0_chosen_52 1 rfl rfl (pc' := 53) rfl ?_
          refine gfC_X_71 g hK dk_0_chosen_53 (pc' := 56) rfl ?_
          obtain ⟨q2, hq, hf⟩ := bnd hf
          refine v_callS_i (As := [.long (gL S 0)]) (rest := []) (r := q2) (S1 := S) g hK hA (c_CChoices_secondOf hq) (kcC_X_193 g.2.2.2.2 rfl rfl (Nat.le_of_ble_eq_true rfl) (Nat.le_of_ble_eq_true rfl)) rfl rfl (Nat.le_of_ble_eq_true rfl) dk_0_chosen_56 (Nat.zero_le _) (Nat.zero_le _) (pc' := 59) rfl ?_
          exact v_iret g hr hlk hK  (pinj hf) dk_0_chosen_59
    · replace hf := ifT hc hf
      refine v_iload_n g dk_0_chosen_30 2 rfl rfl (pc' := 31) rfl ?_
      refine v_if_ne (tgt := 42) (pc' := 34) g dk_0_chosen_31 (by decide) rfl (fun hc => ?_) (fun hc => ?_)
      · replace hf := ifF hc hf
        refine v_iload_n g dk_0_chosen_42 0 rfl rfl (pc' := 43) rfl ?_
        refine v_iconst (v := 2) g dk_0_chosen_43 (by decide) (pc' := 44) rfl ?_
        refine v_icmp_ne (tgt := 60) (pc' := 47) g dk_0_chosen_44 (by decide) rfl (fun hc => ?_) (fun hc => ?_)
        · replace hf := ifF hc hf
          refine v_iconst (v := (-1)) g dk_0_chosen_60 (by decide) (pc' := 61) rfl ?_
          exact v_iret g hr hlk hK  (pinj hf) dk_0_chosen_61
        · replace hf := ifT hc hf
          refine v_iload_n g dk_0_chosen_47 2 rfl rfl (pc' := 48) rfl ?_
          refine v_iconst (v := 1) g dk_0_chosen_48 (by decide) (pc' := 49) rfl ?_
          refine v_icmp_ne (tgt := 60) (pc' := 52) g dk_0_chosen_49 (by decide) rfl (fun hc => ?_) (fun hc => ?_)
          · replace hf := ifF hc hf
            refine v_iconst (v := (-1)) g dk_0_chosen_60 (by decide) (pc' := 61) rfl ?_
            exact v_iret g hr hlk hK  (pinj hf) dk_0_chosen_61
          · replace hf := ifT hc hf
            refine v_aload_n g dk_0_chosen_52 1 rfl rfl (pc' := 53) rfl ?_
            refine gfC_X_71 g hK dk_0_chosen_53 (pc' := 56) rfl ?_
            obtain ⟨q3, hq, hf⟩ := bnd hf
            refine v_callS_i (As := [.long (gL S 0)]) (rest := []) (r := q3) (S1 := S) g hK hA (c_CChoices_secondOf hq) (kcC_X_193 g.2.2.2.2 rfl rfl (Nat.le_of_ble_eq_true rfl) (Nat.le_of_ble_eq_true rfl)) rfl rfl (Nat.le_of_ble_eq_true rfl) dk_0_chosen_56 (Nat.zero_le _) (Nat.zero_le _) (pc' := 59) rfl ?_
            exact v_iret g hr hlk hK  (pinj hf) dk_0_chosen_59
      · replace hf := ifT hc hf
        refine v_aload_n g dk_0_chosen_34 1 rfl rfl (pc' := 35) rfl ?_
        refine gfC_X_71 g hK dk_0_chosen_35 (pc' := 38) rfl ?_
        obtain ⟨q4, hq, hf⟩ := bnd hf
        refine v_callS_i (As := [.long (gL S 0)]) (rest := []) (r := q4) (S1 := S) g hK hA (c_CChoices_firstOf hq) (kcC_X_190 g.2.2.2.2 rfl rfl (Nat.le_of_ble_eq_true rfl) (Nat.le_of_ble_eq_true rfl)) rfl rfl (Nat.le_of_ble_eq_true rfl) dk_0_chosen_38 (Nat.zero_le _) (Nat.zero_le _) (pc' := 41) rfl ?_
        exact v_iret g hr hlk hK  (pinj hf) dk_0_chosen_41
  · replace hf := ifT hc hf
    refine v_iload_n g dk_0_chosen_13 2 rfl rfl (pc' := 14) rfl ?_
    refine v_if_ne (tgt := 25) (pc' := 17) g dk_0_chosen_14 (by decide) rfl (fun hc => ?_) (fun hc => ?_)
    · replace hf := ifF hc hf
      refine v_iload_n g dk_0_chosen_25 0 rfl rfl (pc' := 26) rfl ?_
      refine v_iconst (v := 2) g dk_0_chosen_26 (by decide) (pc' := 27) rfl ?_
      refine v_icmp_ne (tgt := 42) (pc' := 30) g dk_0_chosen_27 (by decide) rfl (fun hc => ?_) (fun hc => ?_)
      · replace hf := ifF hc hf
        refine v_iload_n g dk_0_chosen_42 0 rfl rfl (pc' := 43) rfl ?_
        refine v_iconst (v := 2) g dk_0_chosen_43 (by decide) (pc' := 44) rfl ?_
        refine v_icmp_ne (tgt := 60) (pc' := 47) g dk_0_chosen_44 (by decide) rfl (fun hc => ?_) (fun hc => ?_)
        · replace hf := ifF hc hf
          refine v_iconst (v := (-1)) g dk_0_chosen_60 (by decide) (pc' := 61) rfl ?_
          exact v_iret g hr hlk hK  (pinj hf) dk_0_chosen_61
        · replace hf := ifT hc hf
          refine v_iload_n g dk_0_chosen_47 2 rfl rfl (pc' := 48) rfl ?_
          refine v_iconst (v := 1) g dk_0_chosen_48 (by decide) (pc' := 49) rfl ?_
          refine v_icmp_ne (tgt := 60) (pc' := 52) g dk_0_chosen_49 (by decide) rfl (fun hc => ?_) (fun hc => ?_)
          · replace hf := ifF hc hf
            refine v_iconst (v := (-1)) g dk_0_chosen_60 (by decide) (pc' := 61) rfl ?_
            exact v_iret g hr hlk hK  (pinj hf) dk_0_chosen_61
          · replace hf := ifT hc hf
            refine v_aload_n g dk_0_chosen_52 1 rfl rfl (pc' := 53) rfl ?_
            refine gfC_X_71 g hK dk_0_chosen_53 (pc' := 56) rfl ?_
            obtain ⟨q5, hq, hf⟩ := bnd hf
            refine v_callS_i (As := [.long (gL S 0)]) (rest := []) (r := q5) (S1 := S) g hK hA (c_CChoices_secondOf hq) (kcC_X_193 g.2.2.2.2 rfl rfl (Nat.le_of_ble_eq_true rfl) (Nat.le_of_ble_eq_true rfl)) rfl rfl (Nat.le_of_ble_eq_true rfl) dk_0_chosen_56 (Nat.zero_le _) (Nat.zero_le _) (pc' := 59) rfl ?_
            exact v_iret g hr hlk hK  (pinj hf) dk_0_chosen_59
      · replace hf := ifT hc hf
        refine v_iload_n g dk_0_chosen_30 2 rfl rfl (pc' := 31) rfl ?_
        refine v_if_ne (tgt := 42) (pc' := 34) g dk_0_chosen_31 (by decide) rfl (fun hc => ?_) (fun hc => ?_)
        · replace hf := ifF hc hf
          refine v_iload_n g dk_0_chosen_42 0 rfl rfl (pc' := 43) rfl ?_
          refine v_iconst (v := 2) g dk_0_chosen_43 (by decide) (pc' := 44) rfl ?_
          refine v_icmp_ne (tgt := 60) (pc' := 47) g dk_0_chosen_44 (by decide) rfl (fun hc => ?_) (fun hc => ?_)
          · replace hf := ifF hc hf
            refine v_iconst (v := (-1)) g dk_0_chosen_60 (by decide) (pc' := 61) rfl ?_
            exact v_iret g hr hlk hK  (pinj hf) dk_0_chosen_61
          · replace hf := ifT hc hf
            refine v_iload_n g dk_0_chosen_47 2 rfl rfl (pc' := 48) rfl ?_
            refine v_iconst (v := 1) g dk_0_chosen_48 (by decide) (pc' := 49) rfl ?_
            refine v_icmp_ne (tgt := 60) (pc' := 52) g dk_0_chosen_49 (by decide) rfl (fun hc => ?_) (fun hc => ?_)
            · replace hf := ifF hc hf
              refine v_iconst (v := (-1)) g dk_0_chosen_60 (by decide) (pc' := 61) rfl ?_
              exact v_iret g hr hlk hK  (pinj hf) dk_0_chosen_61
            · replace hf := ifT hc hf
              refine v_aload_n g dk_0_chosen_52 1 rfl rfl (pc' := 53) rfl ?_
              refine gfC_X_71 g hK dk_0_chosen_53 (pc' := 56) rfl ?_
              obtain ⟨q6, hq, hf⟩ := bnd hf
              refine v_callS_i (As := [.long (gL S 0)]) (rest := []) (r := q6) (S1 := S) g hK hA (c_CChoices_secondOf hq) (kcC_X_193 g.2.2.2.2 rfl rfl (Nat.le_of_ble_eq_true rfl) (Nat.le_of_ble_eq_true rfl)) rfl rfl (Nat.le_of_ble_eq_true rfl) dk_0_chosen_56 (Nat.zero_le _) (Nat.zero_le _) (pc' := 59) rfl ?_
              exact v_iret g hr hlk hK  (pinj hf) dk_0_chosen_59
        · replace hf := ifT hc hf
          refine v_aload_n g dk_0_chosen_34 1 rfl rfl (pc' := 35) rfl ?_
          refine gfC_X_71 g hK dk_0_chosen_35 (pc' := 38) rfl ?_
          obtain ⟨q7, hq, hf⟩ := bnd hf
          refine v_callS_i (As := [.long (gL S 0)]) (rest := []) (r := q7) (S1 := S) g hK hA (c_CChoices_firstOf hq) (kcC_X_190 g.2.2.2.2 rfl rfl (Nat.le_of_ble_eq_true rfl) (Nat.le_of_ble_eq_true rfl)) rfl rfl (Nat.le_of_ble_eq_true rfl) dk_0_chosen_38 (Nat.zero_le _) (Nat.zero_le _) (pc' := 41) rfl ?_
          exact v_iret g hr hlk hK  (pinj hf) dk_0_chosen_41
    · replace hf := ifT hc hf
      refine v_aload_n g dk_0_chosen_17 1 rfl rfl (pc' := 18) rfl ?_
      refine gfC_X_71 g hK dk_0_chosen_18 (pc' := 21) rfl ?_
      obtain ⟨q8, hq, hf⟩ := bnd hf
      refine v_callS_i (As := [.long (gL S 0)]) (rest := []) (r := q8) (S1 := S) g hK hA (c_CChoices_valueOf hq) (kcC_X_187 g.2.2.2.2 rfl rfl (Nat.le_of_ble_eq_true rfl) (Nat.le_of_ble_eq_true rfl)) rfl rfl (Nat.le_of_ble_eq_true rfl) dk_0_chosen_21 (Nat.zero_le _) (Nat.zero_le _) (pc' := 24) rfl ?_
      exact v_iret g hr hlk hK  (pinj hf) dk_0_chosen_24
abbrev rm_CNeeds_add : Room := { frames := 0, cells := 0, slots := 0, locals := 0 }
def m_CNeeds_add (S : StC) (x1 : Int32) (x2 : Int32) : Option (Int32 × StC) :=
  if (gI S 6) < 40 then if inb (gI S 6) 40 = true then some (gI S 6, sI (tA (tA S 16 (gI S 6) x1) 17 (gI S 6) x2) 6 ((gI S 6) + (1 : Int32))) else none
    else some ((-1), S)
set_option maxHeartbeats 4000000 in
set_option maxRecDepth 100000 in
theorem c_CNeeds_add {l : Launch} {D : va_G} {ad : Nat → Nat} {ca : Nat → ClassId} {S : StC} {x1 : Int32} {x2 : Int32} {r : Int32 × StC} (hf : m_CNeeds_add S x1 x2 = some r) : KIC l D ad ca yk_7_add (.code yk_7_add bk_7_add 3 (some .int) :: tb) rm_CNeeds_add [.ref (ad 25), .int x1, .int x2] S r := by
  refine met_i (by decide) (Nat.le_of_ble_eq_true rfl) (fun p e s m below meth c A g hr hlk hK hA => ?_)
  replace g : CallFix p m c bk_7_add 3 s _ tb Rk_7 := g
  refine v_lv (lv' := [(0, .ref (ad 25)), (1, .int x1), (2, .int x2)]) rfl ?_
  unfold m_CNeeds_add at hf
  refine v_aload_n g dk_7_add_0 0 rfl rfl (pc' := 1) rfl ?_
  refine gfC_Needs_27 g hK dk_7_add_1 (pc' := 4) rfl ?_
  refine v_bipush (v := 40) g dk_7_add_4 (by decide) (pc' := 6) rfl ?_
  refine v_icmp_lt (tgt := 11) (pc' := 9) g dk_7_add_6 (by decide) rfl (fun hc => ?_) (fun hc => ?_)
  · replace hf := ifT hc hf
    refine v_aload_n g dk_7_add_11 0 rfl rfl (pc' := 12) rfl ?_
    refine gfC_Needs_9 g hK dk_7_add_12 (pc' := 15) rfl ?_
    refine v_aload_n g dk_7_add_15 0 rfl rfl (pc' := 16) rfl ?_
    refine gfC_Needs_27 g hK dk_7_add_16 (pc' := 19) rfl ?_
    refine v_iload_n g dk_7_add_19 1 rfl rfl (pc' := 20) rfl ?_
    obtain ⟨hb1, hf⟩ := grd hf
    refine asC_26 g hK hb1 dk_7_add_20 (pc' := 21) rfl ?_
    refine v_aload_n g dk_7_add_21 0 rfl rfl (pc' := 22) rfl ?_
    refine gfC_Needs_15 g hK dk_7_add_22 (pc' := 25) rfl ?_
    refine v_aload_n g dk_7_add_25 0 rfl rfl (pc' := 26) rfl ?_
    refine gfC_Needs_27 g hK dk_7_add_26 (pc' := 29) rfl ?_
    refine v_iload_n g dk_7_add_29 2 rfl rfl (pc' := 30) rfl ?_
    refine asC_27 g hK hb1 dk_7_add_30 (pc' := 31) rfl ?_
    refine v_aload_n g dk_7_add_31 0 rfl rfl (pc' := 32) rfl ?_
    refine v_dup g dk_7_add_32 rfl (pc' := 33) rfl ?_
    refine gfC_Needs_27 g hK dk_7_add_33 (pc' := 36) rfl ?_
    refine v_dup_x1 g dk_7_add_36 rfl rfl (pc' := 37) rfl ?_
    refine v_iconst (v := 1) g dk_7_add_37 (by decide) (pc' := 38) rfl ?_
    refine v_iadd g dk_7_add_38 (pc' := 39) rfl ?_
    refine pfC_Needs_27 g hK dk_7_add_39 (pc' := 42) rfl ?_
    exact v_iret g hr hlk hK  (Option.some.inj hf) dk_7_add_42
  · replace hf := ifF hc hf
    refine v_iconst (v := (-1)) g dk_7_add_9 (by decide) (pc' := 10) rfl ?_
    exact v_iret g hr hlk hK  (Option.some.inj hf) dk_7_add_10
abbrev rm_CX_need : Room := { frames := 1, cells := 0, slots := 0, locals := 22 }
def m_CX_need (S : StC) (x1 : Int32) (x2 : Int32) : Option (Int32 × StC) :=
  (m_CTargets_isThere S x1).bind fun q1 =>
    if q1 = 0 then some ((-1), S)
    else (m_CTargets_isThere S x2).bind fun q2 =>
    if q2 = 0 then some ((-1), S)
    else (m_CNeeds_add S x1 x2).bind fun q3 =>
    some (q3.1, q3.2)
set_option maxHeartbeats 4000000 in
set_option maxRecDepth 100000 in
theorem c_CX_need {l : Launch} {D : va_G} {ad : Nat → Nat} {ca : Nat → ClassId} {S : StC} {x1 : Int32} {x2 : Int32} {r : Int32 × StC} (hf : m_CX_need S x1 x2 = some r) : KIC l D ad ca yk_0_need (.code yk_0_need bk_0_need 3 (some .int) :: tb) rm_CX_need [.ref (ad 0), .int x1, .int x2] S r := by
  refine met_i (by decide) (Nat.le_of_ble_eq_true rfl) (fun p e s m below meth c A g hr hlk hK hA => ?_)
  replace g : CallFix p m c bk_0_need 3 s _ tb Rk_0 := g
  refine v_lv (lv' := [(0, .ref (ad 0)), (1, .int x1), (2, .int x2)]) rfl ?_
  unfold m_CX_need at hf
  refine v_aload_n g dk_0_need_0 0 rfl rfl (pc' := 1) rfl ?_
  refine gfC_X_40 g hK dk_0_need_1 (pc' := 4) rfl ?_
  refine v_iload_n g dk_0_need_4 1 rfl rfl (pc' := 5) rfl ?_
  obtain ⟨q1, hq, hf⟩ := bnd hf
  refine v_callV_i (As := [.int x1]) (rest := []) (r := q1) (S1 := S) g hK hA (c_CTargets_isThere hq) (kcC_X_121 g.2.2.2.2 rfl rfl (Nat.le_of_ble_eq_true rfl) (Nat.le_of_ble_eq_true rfl)) (ci := 9) (q0 := 13) rfl rfl rfl rfl rfl (Nat.le_of_ble_eq_true rfl) dk_0_need_5 (Nat.zero_le _) (Nat.zero_le _) (pc' := 8) rfl ?_
  refine v_if_eq (tgt := 22) (pc' := 11) g dk_0_need_8 (by decide) rfl (fun hc => ?_) (fun hc => ?_)
  · replace hf := ifT hc hf
    refine v_iconst (v := (-1)) g dk_0_need_22 (by decide) (pc' := 23) rfl ?_
    exact v_iret g hr hlk hK  (Option.some.inj hf) dk_0_need_23
  · replace hf := ifF hc hf
    refine v_aload_n g dk_0_need_11 0 rfl rfl (pc' := 12) rfl ?_
    refine gfC_X_40 g hK dk_0_need_12 (pc' := 15) rfl ?_
    refine v_iload_n g dk_0_need_15 2 rfl rfl (pc' := 16) rfl ?_
    obtain ⟨q2, hq, hf⟩ := bnd hf
    refine v_callV_i (As := [.int x2]) (rest := []) (r := q2) (S1 := S) g hK hA (c_CTargets_isThere hq) (kcC_X_121 g.2.2.2.2 rfl rfl (Nat.le_of_ble_eq_true rfl) (Nat.le_of_ble_eq_true rfl)) (ci := 9) (q0 := 13) rfl rfl rfl rfl rfl (Nat.le_of_ble_eq_true rfl) dk_0_need_16 (Nat.zero_le _) (Nat.zero_le _) (pc' := 19) rfl ?_
    refine v_if_ne (tgt := 24) (pc' := 22) g dk_0_need_19 (by decide) rfl (fun hc => ?_) (fun hc => ?_)
    · replace hf := ifF hc hf
      refine v_aload_n g dk_0_need_24 0 rfl rfl (pc' := 25) rfl ?_
      refine gfC_X_54 g hK dk_0_need_25 (pc' := 28) rfl ?_
      refine v_iload_n g dk_0_need_28 1 rfl rfl (pc' := 29) rfl ?_
      refine v_iload_n g dk_0_need_29 2 rfl rfl (pc' := 30) rfl ?_
      obtain ⟨q3, hq, hf⟩ := bnd hf
      refine v_callV_i (As := [.int x1, .int x2]) (rest := []) (r := q3.1) (S1 := q3.2) g hK hA (c_CNeeds_add hq) (kcC_X_196 g.2.2.2.2 rfl rfl (Nat.le_of_ble_eq_true rfl) (Nat.le_of_ble_eq_true rfl)) (ci := 4) (q0 := 25) rfl rfl rfl rfl rfl (Nat.le_of_ble_eq_true rfl) dk_0_need_30 (Nat.zero_le _) (Nat.zero_le _) (pc' := 33) rfl ?_
      exact v_iret g hr hlk hK  (Option.some.inj hf) dk_0_need_33
    · replace hf := ifT hc hf
      refine v_iconst (v := (-1)) g dk_0_need_22 (by decide) (pc' := 23) rfl ?_
      exact v_iret g hr hlk hK  (Option.some.inj hf) dk_0_need_23
abbrev rm_CNeeds_isThere : Room := { frames := 0, cells := 0, slots := 0, locals := 0 }
def m_CNeeds_isThere (S : StC) (x1 : Int32) : Option Int32 :=
  if x1 < 0 then some 0
    else if (gI S 6) ≤ x1 then some 0
    else some 1
set_option maxHeartbeats 4000000 in
set_option maxRecDepth 100000 in
theorem c_CNeeds_isThere {l : Launch} {D : va_G} {ad : Nat → Nat} {ca : Nat → ClassId} {S : StC} {x1 : Int32} {r : Int32} (hf : m_CNeeds_isThere S x1 = some r) : KIC l D ad ca yk_7_isThere (.code yk_7_isThere bk_7_isThere 2 (some .boolean) :: tb) rm_CNeeds_isThere [.ref (ad 25), .int x1] S (r, S) := by
  refine met_z (by decide) (Nat.le_of_ble_eq_true rfl) (fun p e s m below meth c A g hr hlk hK hA => ?_)
  replace g : CallFix p m c bk_7_isThere 2 s _ tb Rk_7 := g
  refine v_lv (lv' := [(0, .ref (ad 25)), (1, .int x1)]) rfl ?_
  unfold m_CNeeds_isThere at hf
  refine v_iload_n g dk_7_isThere_0 1 rfl rfl (pc' := 1) rfl ?_
  refine v_if_lt (tgt := 16) (pc' := 4) g dk_7_isThere_1 (by decide) rfl (fun hc => ?_) (fun hc => ?_)
  · replace hf := ifT hc hf
    refine v_iconst (v := 0) g dk_7_isThere_16 (by decide) (pc' := 17) rfl ?_
    exact v_zret g hr hlk hK rfl (pinj hf) dk_7_isThere_17
  · replace hf := ifF hc hf
    refine v_iload_n g dk_7_isThere_4 1 rfl rfl (pc' := 5) rfl ?_
    refine v_aload_n g dk_7_isThere_5 0 rfl rfl (pc' := 6) rfl ?_
    refine gfC_Needs_27 g hK dk_7_isThere_6 (pc' := 9) rfl ?_
    refine v_icmp_ge (tgt := 16) (pc' := 12) g dk_7_isThere_9 (by decide) rfl (fun hc => ?_) (fun hc => ?_)
    · replace hf := ifT hc hf
      refine v_iconst (v := 0) g dk_7_isThere_16 (by decide) (pc' := 17) rfl ?_
      exact v_zret g hr hlk hK rfl (pinj hf) dk_7_isThere_17
    · replace hf := ifF hc hf
      refine v_iconst (v := 1) g dk_7_isThere_12 (by decide) (pc' := 13) rfl ?_
      refine v_goto (tgt := 17) g dk_7_isThere_13 (by decide) ?_
      exact v_zret g hr hlk hK rfl (pinj hf) dk_7_isThere_17
abbrev rm_CNeeds_addChange : Room := { frames := 0, cells := 0, slots := 0, locals := 0 }
def m_CNeeds_addChange (S : StC) (x1 : Int32) (x2 : Int32) (x3 : Int32) : Option (Int32 × StC) :=
  if inb x1 40 = true then if (gA S 18 x1.toNatClampNeg) < 2 then if inb ((x1 * (2 : Int32)) + (gA S 18 x1.toNatClampNeg)) 80 = true then some (1, tA (tA (tA S 19 ((x1 * (2 : Int32)) + (gA S 18 x1.toNatClampNeg)) x2) 20 ((x1 * (2 : Int32)) + (gA S 18 x1.toNatClampNeg)) x3) 18 x1 ((gA S 18 x1.toNatClampNeg) + (1 : Int32))) else none
    else some (0, S) else none
set_option maxHeartbeats 4000000 in
set_option maxRecDepth 100000 in
theorem c_CNeeds_addChange {l : Launch} {D : va_G} {ad : Nat → Nat} {ca : Nat → ClassId} {S : StC} {x1 : Int32} {x2 : Int32} {x3 : Int32} {r : Int32 × StC} (hf : m_CNeeds_addChange S x1 x2 x3 = some r) : KIC l D ad ca yk_7_addChange (.code yk_7_addChange bk_7_addChange 5 (some .boolean) :: tb) rm_CNeeds_addChange [.ref (ad 25), .int x1, .int x2, .int x3] S r := by
  refine met_z (by decide) (Nat.le_of_ble_eq_true rfl) (fun p e s m below meth c A g hr hlk hK hA => ?_)
  replace g : CallFix p m c bk_7_addChange 5 s _ tb Rk_7 := g
  refine v_lv (lv' := [(0, .ref (ad 25)), (1, .int x1), (2, .int x2), (3, .int x3)]) rfl ?_
  unfold m_CNeeds_addChange at hf
  refine v_aload_n g dk_7_addChange_0 0 rfl rfl (pc' := 1) rfl ?_
  refine gfC_Needs_18 g hK dk_7_addChange_1 (pc' := 4) rfl ?_
  refine v_iload_n g dk_7_addChange_4 1 rfl rfl (pc' := 5) rfl ?_
  obtain ⟨hb1, hf⟩ := grd hf
  refine alC_28 g hK hb1 dk_7_addChange_5 (pc' := 6) rfl ?_
  refine v_iconst (v := 2) g dk_7_addChange_6 (by decide) (pc' := 7) rfl ?_
  refine v_icmp_lt (tgt := 12) (pc' := 10) g dk_7_addChange_7 (by decide) rfl (fun hc => ?_) (fun hc => ?_)
  · replace hf := ifT hc hf
    refine v_iload_n g dk_7_addChange_12 1 rfl rfl (pc' := 13) rfl ?_
    refine v_iconst (v := 2) g dk_7_addChange_13 (by decide) (pc' := 14) rfl ?_
    refine v_imul g dk_7_addChange_14 (pc' := 15) rfl ?_
    refine v_aload_n g dk_7_addChange_15 0 rfl rfl (pc' := 16) rfl ?_
    refine gfC_Needs_18 g hK dk_7_addChange_16 (pc' := 19) rfl ?_
    refine v_iload_n g dk_7_addChange_19 1 rfl rfl (pc' := 20) rfl ?_
    refine alC_28 g hK hb1 dk_7_addChange_20 (pc' := 21) rfl ?_
    refine v_iadd g dk_7_addChange_21 (pc' := 22) rfl ?_
    refine v_istore (lv' := [(4, .int ((x1 * (2 : Int32)) + (gA S 18 x1.toNatClampNeg))), (0, .ref (ad 25)), (1, .int x1), (2, .int x2), (3, .int x3)]) g dk_7_addChange_22 (by decide) rfl (pc' := 24) rfl ?_
    refine v_aload_n g dk_7_addChange_24 1 rfl rfl (pc' := 25) rfl ?_
    refine gfC_Needs_21 g hK dk_7_addChange_25 (pc' := 28) rfl ?_
    refine v_iload g dk_7_addChange_28 0 rfl (pc' := 30) rfl ?_
    refine v_iload_n g dk_7_addChange_30 3 rfl rfl (pc' := 31) rfl ?_
    obtain ⟨hb2, hf⟩ := grd hf
    refine asC_29 g hK hb2 dk_7_addChange_31 (pc' := 32) rfl ?_
    refine v_aload_n g dk_7_addChange_32 1 rfl rfl (pc' := 33) rfl ?_
    refine gfC_Needs_24 g hK dk_7_addChange_33 (pc' := 36) rfl ?_
    refine v_iload g dk_7_addChange_36 0 rfl (pc' := 38) rfl ?_
    refine v_iload_n g dk_7_addChange_38 4 rfl rfl (pc' := 39) rfl ?_
    refine asC_30 g hK hb2 dk_7_addChange_39 (pc' := 40) rfl ?_
    refine v_aload_n g dk_7_addChange_40 1 rfl rfl (pc' := 41) rfl ?_
    refine gfC_Needs_18 g hK dk_7_addChange_41 (pc' := 44) rfl ?_
    refine v_iload_n g dk_7_addChange_44 2 rfl rfl (pc' := 45) rfl ?_
    refine v_dup2 g dk_7_addChange_45 rfl rfl (pc' := 46) rfl ?_
    refine alC_28 g hK hb1 dk_7_addChange_46 (pc' := 47) rfl ?_
    refine v_iconst (v := 1) g dk_7_addChange_47 (by decide) (pc' := 48) rfl ?_
    refine v_iadd g dk_7_addChange_48 (pc' := 49) rfl ?_
    refine asC_28 g hK hb1 dk_7_addChange_49 (pc' := 50) rfl ?_
    refine v_iconst (v := 1) g dk_7_addChange_50 (by decide) (pc' := 51) rfl ?_
    exact v_zret g hr hlk hK rfl (Option.some.inj hf) dk_7_addChange_51
  · replace hf := ifF hc hf
    refine v_iconst (v := 0) g dk_7_addChange_10 (by decide) (pc' := 11) rfl ?_
    exact v_zret g hr hlk hK rfl (Option.some.inj hf) dk_7_addChange_11
abbrev rm_CX_change : Room := { frames := 1, cells := 0, slots := 0, locals := 24 }
def m_CX_change (S : StC) (x1 : Int32) (x2 : Int32) (x3 : Int32) : Option (Int32 × StC) :=
  (m_CNeeds_isThere S x1).bind fun q1 =>
    if q1 = 0 then some (0, S)
    else (m_CSettings_isThere S x2).bind fun q2 =>
    if q2 = 0 then some (0, S)
    else if (x3 &&& (255 : Int32)) = 0 then some (0, S)
    else (m_CNeeds_addChange S x1 x2 (x3 &&& (255 : Int32))).bind fun q3 =>
    if isB q3.1 = true then some (q3.1, q3.2) else none
set_option maxHeartbeats 4000000 in
set_option maxRecDepth 100000 in
theorem c_CX_change {l : Launch} {D : va_G} {ad : Nat → Nat} {ca : Nat → ClassId} {S : StC} {x1 : Int32} {x2 : Int32} {x3 : Int32} {r : Int32 × StC} (hf : m_CX_change S x1 x2 x3 = some r) : KIC l D ad ca yk_0_change (.code yk_0_change bk_0_change 5 (some .boolean) :: tb) rm_CX_change [.ref (ad 0), .int x1, .int x2, .int x3] S r := by
  refine met_z (by decide) (Nat.le_of_ble_eq_true rfl) (fun p e s m below meth c A g hr hlk hK hA => ?_)
  replace g : CallFix p m c bk_0_change 5 s _ tb Rk_0 := g
  refine v_lv (lv' := [(0, .ref (ad 0)), (1, .int x1), (2, .int x2), (3, .int x3)]) rfl ?_
  unfold m_CX_change at hf
  refine v_iload_n g dk_0_change_0 3 rfl rfl (pc' := 1) rfl ?_
  refine v_sipush (v := 255) g dk_0_change_1 (by decide) (pc' := 4) rfl ?_
  refine v_iand g dk_0_change_4 (pc' := 5) rfl ?_
  refine v_istore (lv' := [(4, .int (x3 &&& (255 : Int32))), (0, .ref (ad 0)), (1, .int x1), (2, .int x2), (3, .int x3)]) g dk_0_change_5 (by decide) rfl (pc' := 7) rfl ?_
  refine v_aload_n g dk_0_change_7 1 rfl rfl (pc' := 8) rfl ?_
  refine gfC_X_54 g hK dk_0_change_8 (pc' := 11) rfl ?_
  refine v_iload_n g dk_0_change_11 2 rfl rfl (pc' := 12) rfl ?_
  obtain ⟨q1, hq, hf⟩ := bnd hf
  refine v_callV_i (As := [.int x1]) (rest := []) (r := q1) (S1 := S) g hK hA (c_CNeeds_isThere hq) (kcC_X_199 g.2.2.2.2 rfl rfl (Nat.le_of_ble_eq_true rfl) (Nat.le_of_ble_eq_true rfl)) (ci := 4) (q0 := 25) rfl rfl rfl rfl rfl (Nat.le_of_ble_eq_true rfl) dk_0_change_12 (Nat.zero_le _) (Nat.zero_le _) (pc' := 15) rfl ?_
  refine v_if_eq (tgt := 34) (pc' := 18) g dk_0_change_15 (by decide) rfl (fun hc => ?_) (fun hc => ?_)
  · replace hf := ifT hc hf
    refine v_iconst (v := 0) g dk_0_change_34 (by decide) (pc' := 35) rfl ?_
    exact v_zret g hr hlk hK rfl (Option.some.inj hf) dk_0_change_35
  · replace hf := ifF hc hf
    refine v_aload_n g dk_0_change_18 1 rfl rfl (pc' := 19) rfl ?_
    refine gfC_X_12 g hK dk_0_change_19 (pc' := 22) rfl ?_
    refine v_iload_n g dk_0_change_22 3 rfl rfl (pc' := 23) rfl ?_
    obtain ⟨q2, hq, hf⟩ := bnd hf
    refine v_callV_i (As := [.int x2]) (rest := []) (r := q2) (S1 := S) g hK hA (c_CSettings_isThere hq) (kcC_X_109 g.2.2.2.2 rfl rfl (Nat.le_of_ble_eq_true rfl) (Nat.le_of_ble_eq_true rfl)) (ci := 8) (q0 := 1) rfl rfl rfl rfl rfl (Nat.le_of_ble_eq_true rfl) dk_0_change_23 (Nat.zero_le _) (Nat.zero_le _) (pc' := 26) rfl ?_
    refine v_if_eq (tgt := 34) (pc' := 29) g dk_0_change_26 (by decide) rfl (fun hc => ?_) (fun hc => ?_)
    · replace hf := ifT hc hf
      refine v_iconst (v := 0) g dk_0_change_34 (by decide) (pc' := 35) rfl ?_
      exact v_zret g hr hlk hK rfl (Option.some.inj hf) dk_0_change_35
    · replace hf := ifF hc hf
      refine v_iload g dk_0_change_29 0 rfl (pc' := 31) rfl ?_
      refine v_if_ne (tgt := 36) (pc' := 34) g dk_0_change_31 (by decide) rfl (fun hc => ?_) (fun hc => ?_)
      · replace hf := ifF hc hf
        refine v_aload_n g dk_0_change_36 1 rfl rfl (pc' := 37) rfl ?_
        refine gfC_X_54 g hK dk_0_change_37 (pc' := 40) rfl ?_
        refine v_iload_n g dk_0_change_40 2 rfl rfl (pc' := 41) rfl ?_
        refine v_iload_n g dk_0_change_41 3 rfl rfl (pc' := 42) rfl ?_
        refine v_iload g dk_0_change_42 0 rfl (pc' := 44) rfl ?_
        obtain ⟨q3, hq, hf⟩ := bnd hf
        refine v_callV_i (As := [.int x1, .int x2, .int (x3 &&& (255 : Int32))]) (rest := []) (r := q3.1) (S1 := q3.2) g hK hA (c_CNeeds_addChange hq) (kcC_X_200 g.2.2.2.2 rfl rfl (Nat.le_of_ble_eq_true rfl) (Nat.le_of_ble_eq_true rfl)) (ci := 4) (q0 := 25) rfl rfl rfl rfl rfl (Nat.le_of_ble_eq_true rfl) dk_0_change_44 (Nat.zero_le _) (Nat.zero_le _) (pc' := 47) rfl ?_
        obtain ⟨hz, hf⟩ := grd hf
        exact v_zret g hr hlk hK hz (Option.some.inj hf) dk_0_change_47
      · replace hf := ifT hc hf
        refine v_iconst (v := 0) g dk_0_change_34 (by decide) (pc' := 35) rfl ?_
        exact v_zret g hr hlk hK rfl (Option.some.inj hf) dk_0_change_35
