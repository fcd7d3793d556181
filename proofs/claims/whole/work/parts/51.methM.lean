abbrev rm_MX_branch : Room := { frames := 1, cells := 0, slots := 0, locals := 24 }
def m_MX_branch (S : StM) (x1 : Int32) (x2 : Int32) (x3 : Int32) (x4 : Int32) : Option (Int32 × StM) :=
  (m_MX_in S x1 (gI S 4)).bind fun q1 =>
    if q1 = 0 then some (0, S)
    else (m_MX_in S x2 (gI S 3)).bind fun q2 =>
    if q2 = 0 then some (0, S)
    else if inb x1 24 = true then if (gA S 11 x1.toNatClampNeg) = 8 then some (0, S)
    else if x3 = 0 then if inb (((8 : Int32) * x1) + (gA S 11 x1.toNatClampNeg)) 192 = true then some (1, tA (tA (tA (tA S 12 (((8 : Int32) * x1) + (gA S 11 x1.toNatClampNeg)) x2) 15 (((8 : Int32) * x1) + (gA S 11 x1.toNatClampNeg)) (vp_nar .boolean x3)) 13 (((8 : Int32) * x1) + (gA S 11 x1.toNatClampNeg)) x4) 11 x1 ((gA S 11 x1.toNatClampNeg) + (1 : Int32))) else none
    else (m_MX_in S x4 x1).bind fun q5 =>
    if q5 = 0 then some (0, S)
    else if inb x4 24 = true then if (gA S 10 x4.toNatClampNeg) = (gA S 10 x1.toNatClampNeg) then (m_MX_hasNested S x4).bind fun q7 =>
    if q7 = 0 then (m_MX_isWithin S x1).bind fun q8 =>
    if q8 = 0 then if inb (((8 : Int32) * x1) + (gA S 11 x1.toNatClampNeg)) 192 = true then some (1, tA (tA (tA (tA S 12 (((8 : Int32) * x1) + (gA S 11 x1.toNatClampNeg)) x2) 15 (((8 : Int32) * x1) + (gA S 11 x1.toNatClampNeg)) (vp_nar .boolean x3)) 13 (((8 : Int32) * x1) + (gA S 11 x1.toNatClampNeg)) x4) 11 x1 ((gA S 11 x1.toNatClampNeg) + (1 : Int32))) else none
    else some (0, S)
    else some (0, S)
    else some (0, S) else none else none
set_option maxHeartbeats 4000000 in
set_option maxRecDepth 100000 in
theorem c_MX_branch {l : Launch} {D : va_G} {ad : Nat → Nat} {ca : Nat → ClassId} {S : StM} {x1 : Int32} {x2 : Int32} {x3 : Int32} {x4 : Int32} {r : Int32 × StM} (hf : m_MX_branch S x1 x2 x3 x4 = some r) : KIM l D ad ca yk_1_branch (.code yk_1_branch bk_1_branch 6 (some .boolean) :: tb) rm_MX_branch [.ref (ad 0), .int x1, .int x2, .int x3, .int x4] S r := by
  refine met_z (by decide) (Nat.le_of_ble_eq_true rfl) (fun p e s m below meth c A g hr hlk hK hA => ?_)
  replace g : CallFix p m c bk_1_branch 6 s _ tb Rk_1 := g
  refine v_lv (lv' := [(0, .ref (ad 0)), (1, .int x1), (2, .int x2), (3, .int x3), (4, .int x4)]) rfl ?_
  unfold m_MX_branch at hf
  refine v_iload_n g dk_1_branch_0 1 rfl rfl (pc' := 1) rfl ?_
  refine v_aload_n g dk_1_branch_1 0 rfl rfl (pc' := 2) rfl ?_
  refine gfM_X_119 g hK dk_1_branch_2 (pc' := 5) rfl ?_
  obtain ⟨q1, hq, hf⟩ := bnd hf
  refine v_callS_i (As := [.int x1, .int (gI S 4)]) (rest := []) (r := q1) (S1 := S) g hK hA (c_MX_in hq) (kcM_X_102 g.2.2.2.2 rfl rfl (Nat.le_of_ble_eq_true rfl) (Nat.le_of_ble_eq_true rfl)) rfl rfl (Nat.le_of_ble_eq_true rfl) dk_1_branch_5 (Nat.zero_le _) (Nat.zero_le _) (pc' := 8) rfl ?_
  refine v_if_eq (tgt := 33) (pc' := 11) g dk_1_branch_8 (by decide) rfl (fun hc => ?_) (fun hc => ?_)
  · replace hf := ifT hc hf
    refine v_iconst (v := 0) g dk_1_branch_33 (by decide) (pc' := 34) rfl ?_
    exact v_zret g hr hlk hK rfl (Option.some.inj hf) dk_1_branch_34
  · replace hf := ifF hc hf
    refine v_iload_n g dk_1_branch_11 2 rfl rfl (pc' := 12) rfl ?_
    refine v_aload_n g dk_1_branch_12 0 rfl rfl (pc' := 13) rfl ?_
    refine gfM_X_116 g hK dk_1_branch_13 (pc' := 16) rfl ?_
    obtain ⟨q2, hq, hf⟩ := bnd hf
    refine v_callS_i (As := [.int x2, .int (gI S 3)]) (rest := []) (r := q2) (S1 := S) g hK hA (c_MX_in hq) (kcM_X_102 g.2.2.2.2 rfl rfl (Nat.le_of_ble_eq_true rfl) (Nat.le_of_ble_eq_true rfl)) rfl rfl (Nat.le_of_ble_eq_true rfl) dk_1_branch_16 (Nat.zero_le _) (Nat.zero_le _) (pc' := 19) rfl ?_
    refine v_if_eq (tgt := 33) (pc' := 22) g dk_1_branch_19 (by decide) rfl (fun hc => ?_) (fun hc => ?_)
    · replace hf := ifT hc hf
      refine v_iconst (v := 0) g dk_1_branch_33 (by decide) (pc' := 34) rfl ?_
      exact v_zret g hr hlk hK rfl (Option.some.inj hf) dk_1_branch_34
    · replace hf := ifF hc hf
      refine v_aload_n g dk_1_branch_22 0 rfl rfl (pc' := 23) rfl ?_
      refine gfM_X_44 g hK dk_1_branch_23 (pc' := 26) rfl ?_
      refine v_iload_n g dk_1_branch_26 1 rfl rfl (pc' := 27) rfl ?_
      obtain ⟨hb3, hf⟩ := grd hf
      refine alM_12 g hK hb3 dk_1_branch_27 (pc' := 28) rfl ?_
      refine v_bipush (v := 8) g dk_1_branch_28 (by decide) (pc' := 30) rfl ?_
      refine v_icmp_ne (tgt := 35) (pc' := 33) g dk_1_branch_30 (by decide) rfl (fun hc => ?_) (fun hc => ?_)
      · replace hf := ifF hc hf
        refine v_iload_n g dk_1_branch_35 3 rfl rfl (pc' := 36) rfl ?_
        refine v_if_eq (tgt := 83) (pc' := 39) g dk_1_branch_36 (by decide) rfl (fun hc => ?_) (fun hc => ?_)
        · replace hf := ifT hc hf
          refine v_bipush (v := 8) g dk_1_branch_83 (by decide) (pc' := 85) rfl ?_
          refine v_iload_n g dk_1_branch_85 1 rfl rfl (pc' := 86) rfl ?_
          refine v_imul g dk_1_branch_86 (pc' := 87) rfl ?_
          refine v_aload_n g dk_1_branch_87 0 rfl rfl (pc' := 88) rfl ?_
          refine gfM_X_44 g hK dk_1_branch_88 (pc' := 91) rfl ?_
          refine v_iload_n g dk_1_branch_91 1 rfl rfl (pc' := 92) rfl ?_
          refine alM_12 g hK hb3 dk_1_branch_92 (pc' := 93) rfl ?_
          refine v_iadd g dk_1_branch_93 (pc' := 94) rfl ?_
          refine v_istore (lv' := [(5, .int (((8 : Int32) * x1) + (gA S 11 x1.toNatClampNeg))), (0, .ref (ad 0)), (1, .int x1), (2, .int x2), (3, .int x3), (4, .int x4)]) g dk_1_branch_94 (by decide) rfl (pc' := 96) rfl ?_
          refine v_aload_n g dk_1_branch_96 1 rfl rfl (pc' := 97) rfl ?_
          refine gfM_X_47 g hK dk_1_branch_97 (pc' := 100) rfl ?_
          refine v_iload g dk_1_branch_100 0 rfl (pc' := 102) rfl ?_
          refine v_iload_n g dk_1_branch_102 3 rfl rfl (pc' := 103) rfl ?_
          obtain ⟨hb4, hf⟩ := grd hf
          refine asM_13 g hK hb4 dk_1_branch_103 (pc' := 104) rfl ?_
          refine v_aload_n g dk_1_branch_104 1 rfl rfl (pc' := 105) rfl ?_
          refine gfM_X_56 g hK dk_1_branch_105 (pc' := 108) rfl ?_
          refine v_iload g dk_1_branch_108 0 rfl (pc' := 110) rfl ?_
          refine v_iload_n g dk_1_branch_110 4 rfl rfl (pc' := 111) rfl ?_
          refine asM_16 g hK hb4 dk_1_branch_111 (pc' := 112) rfl ?_
          refine v_aload_n g dk_1_branch_112 1 rfl rfl (pc' := 113) rfl ?_
          refine gfM_X_50 g hK dk_1_branch_113 (pc' := 116) rfl ?_
          refine v_iload g dk_1_branch_116 0 rfl (pc' := 118) rfl ?_
          refine v_iload g dk_1_branch_118 5 rfl (pc' := 120) rfl ?_
          refine asM_14 g hK hb4 dk_1_branch_120 (pc' := 121) rfl ?_
          refine v_aload_n g dk_1_branch_121 1 rfl rfl (pc' := 122) rfl ?_
          refine gfM_X_44 g hK dk_1_branch_122 (pc' := 125) rfl ?_
          refine v_iload_n g dk_1_branch_125 2 rfl rfl (pc' := 126) rfl ?_
          refine v_dup2 g dk_1_branch_126 rfl rfl (pc' := 127) rfl ?_
          refine alM_12 g hK hb3 dk_1_branch_127 (pc' := 128) rfl ?_
          refine v_iconst (v := 1) g dk_1_branch_128 (by decide) (pc' := 129) rfl ?_
          refine v_iadd g dk_1_branch_129 (pc' := 130) rfl ?_
          refine asM_12 g hK hb3 dk_1_branch_130 (pc' := 131) rfl ?_
          refine v_iconst (v := 1) g dk_1_branch_131 (by decide) (pc' := 132) rfl ?_
          exact v_zret g hr hlk hK rfl (Option.some.inj hf) dk_1_branch_132
        · replace hf := ifF hc hf
          refine v_iload g dk_1_branch_39 4 rfl (pc' := 41) rfl ?_
          refine v_iload_n g dk_1_branch_41 1 rfl rfl (pc' := 42) rfl ?_
          obtain ⟨q5, hq, hf⟩ := bnd hf
          refine v_callS_i (As := [.int x4, .int x1]) (rest := []) (r := q5) (S1 := S) g hK hA (c_MX_in hq) (kcM_X_102 g.2.2.2.2 rfl rfl (Nat.le_of_ble_eq_true rfl) (Nat.le_of_ble_eq_true rfl)) rfl rfl (Nat.le_of_ble_eq_true rfl) dk_1_branch_42 (Nat.zero_le _) (Nat.zero_le _) (pc' := 45) rfl ?_
          refine v_if_eq (tgt := 81) (pc' := 48) g dk_1_branch_45 (by decide) rfl (fun hc => ?_) (fun hc => ?_)
          · replace hf := ifT hc hf
            refine v_iconst (v := 0) g dk_1_branch_81 (by decide) (pc' := 82) rfl ?_
            exact v_zret g hr hlk hK rfl (Option.some.inj hf) dk_1_branch_82
          · replace hf := ifF hc hf
            refine v_aload_n g dk_1_branch_48 0 rfl rfl (pc' := 49) rfl ?_
            refine gfM_X_41 g hK dk_1_branch_49 (pc' := 52) rfl ?_
            refine v_iload g dk_1_branch_52 4 rfl (pc' := 54) rfl ?_
            obtain ⟨hb6, hf⟩ := grd hf
            refine alM_11 g hK hb6 dk_1_branch_54 (pc' := 55) rfl ?_
            refine v_aload_n g dk_1_branch_55 0 rfl rfl (pc' := 56) rfl ?_
            refine gfM_X_41 g hK dk_1_branch_56 (pc' := 59) rfl ?_
            refine v_iload_n g dk_1_branch_59 1 rfl rfl (pc' := 60) rfl ?_
            refine alM_11 g hK hb3 dk_1_branch_60 (pc' := 61) rfl ?_
            refine v_icmp_ne (tgt := 81) (pc' := 64) g dk_1_branch_61 (by decide) rfl (fun hc => ?_) (fun hc => ?_)
            · replace hf := ifF hc hf
              refine v_iconst (v := 0) g dk_1_branch_81 (by decide) (pc' := 82) rfl ?_
              exact v_zret g hr hlk hK rfl (Option.some.inj hf) dk_1_branch_82
            · replace hf := ifT hc hf
              refine v_aload_n g dk_1_branch_64 0 rfl rfl (pc' := 65) rfl ?_
              refine v_iload g dk_1_branch_65 4 rfl (pc' := 67) rfl ?_
              obtain ⟨q7, hq, hf⟩ := bnd hf
              refine v_callV_i (As := [.int x4]) (rest := []) (r := q7) (S1 := S) g hK hA (c_MX_hasNested hq) (kcM_X_141 g.2.2.2.2 rfl rfl (Nat.le_of_ble_eq_true rfl) (Nat.le_of_ble_eq_true rfl)) (ci := 1) (q0 := 0) rfl rfl rfl rfl rfl (Nat.le_of_ble_eq_true rfl) dk_1_branch_67 (Nat.zero_le _) (Nat.zero_le _) (pc' := 70) rfl ?_
              refine v_if_ne (tgt := 81) (pc' := 73) g dk_1_branch_70 (by decide) rfl (fun hc => ?_) (fun hc => ?_)
              · replace hf := ifF hc hf
                refine v_iconst (v := 0) g dk_1_branch_81 (by decide) (pc' := 82) rfl ?_
                exact v_zret g hr hlk hK rfl (Option.some.inj hf) dk_1_branch_82
              · replace hf := ifT hc hf
                refine v_aload_n g dk_1_branch_73 0 rfl rfl (pc' := 74) rfl ?_
                refine v_iload_n g dk_1_branch_74 1 rfl rfl (pc' := 75) rfl ?_
                obtain ⟨q8, hq, hf⟩ := bnd hf
                refine v_callV_i (As := [.int x1]) (rest := []) (r := q8) (S1 := S) g hK hA (c_MX_isWithin hq) (kcM_X_144 g.2.2.2.2 rfl rfl (Nat.le_of_ble_eq_true rfl) (Nat.le_of_ble_eq_true rfl)) (ci := 1) (q0 := 0) rfl rfl rfl rfl rfl (Nat.le_of_ble_eq_true rfl) dk_1_branch_75 (Nat.zero_le _) (Nat.zero_le _) (pc' := 78) rfl ?_
                refine v_if_eq (tgt := 83) (pc' := 81) g dk_1_branch_78 (by decide) rfl (fun hc => ?_) (fun hc => ?_)
                · replace hf := ifT hc hf
                  refine v_bipush (v := 8) g dk_1_branch_83 (by decide) (pc' := 85) rfl ?_
                  refine v_iload_n g dk_1_branch_85 1 rfl rfl (pc' := 86) rfl ?_
                  refine v_imul g dk_1_branch_86 (pc' := 87) rfl ?_
                  refine v_aload_n g dk_1_branch_87 0 rfl rfl (pc' := 88) rfl ?_
                  refine gfM_X_44 g hK dk_1_branch_88 (pc' := 91) rfl ?_
                  refine v_iload_n g dk_1_branch_91 1 rfl rfl (pc' := 92) rfl ?_
                  refine alM_12 g hK hb3 dk_1_branch_92 (pc' := 93) rfl ?_
                  refine v_iadd g dk_1_branch_93 (pc' := 94) rfl ?_
                  refine v_istore (lv' := [(5, .int (((8 : Int32) * x1) + (gA S 11 x1.toNatClampNeg))), (0, .ref (ad 0)), (1, .int x1), (2, .int x2), (3, .int x3), (4, .int x4)]) g dk_1_branch_94 (by decide) rfl (pc' := 96) rfl ?_
                  refine v_aload_n g dk_1_branch_96 1 rfl rfl (pc' := 97) rfl ?_
                  refine gfM_X_47 g hK dk_1_branch_97 (pc' := 100) rfl ?_
                  refine v_iload g dk_1_branch_100 0 rfl (pc' := 102) rfl ?_
                  refine v_iload_n g dk_1_branch_102 3 rfl rfl (pc' := 103) rfl ?_
                  obtain ⟨hb9, hf⟩ := grd hf
                  refine asM_13 g hK hb9 dk_1_branch_103 (pc' := 104) rfl ?_
                  refine v_aload_n g dk_1_branch_104 1 rfl rfl (pc' := 105) rfl ?_
                  refine gfM_X_56 g hK dk_1_branch_105 (pc' := 108) rfl ?_
                  refine v_iload g dk_1_branch_108 0 rfl (pc' := 110) rfl ?_
                  refine v_iload_n g dk_1_branch_110 4 rfl rfl (pc' := 111) rfl ?_
                  refine asM_16 g hK hb9 dk_1_branch_111 (pc' := 112) rfl ?_
                  refine v_aload_n g dk_1_branch_112 1 rfl rfl (pc' := 113) rfl ?_
                  refine gfM_X_50 g hK dk_1_branch_113 (pc' := 116) rfl ?_
                  refine v_iload g dk_1_branch_116 0 rfl (pc' := 118) rfl ?_
                  refine v_iload g dk_1_branch_118 5 rfl (pc' := 120) rfl ?_
                  refine asM_14 g hK hb9 dk_1_branch_120 (pc' := 121) rfl ?_
                  refine v_aload_n g dk_1_branch_121 1 rfl rfl (pc' := 122) rfl ?_
                  refine gfM_X_44 g hK dk_1_branch_122 (pc' := 125) rfl ?_
                  refine v_iload_n g dk_1_branch_125 2 rfl rfl (pc' := 126) rfl ?_
                  refine v_dup2 g dk_1_branch_126 rfl rfl (pc' := 127) rfl ?_
                  refine alM_12 g hK hb3 dk_1_branch_127 (pc' := 128) rfl ?_
                  refine v_iconst (v := 1) g dk_1_branch_128 (by decide) (pc' := 129) rfl ?_
                  refine v_iadd g dk_1_branch_129 (pc' := 130) rfl ?_
                  refine asM_12 g hK hb3 dk_1_branch_130 (pc' := 131) rfl ?_
                  refine v_iconst (v := 1) g dk_1_branch_131 (by decide) (pc' := 132) rfl ?_
                  exact v_zret g hr hlk hK rfl (Option.some.inj hf) dk_1_branch_132
                · replace hf := ifF hc hf
                  refine v_iconst (v := 0) g dk_1_branch_81 (by decide) (pc' := 82) rfl ?_
                  exact v_zret g hr hlk hK rfl (Option.some.inj hf) dk_1_branch_82
      · replace hf := ifT hc hf
        refine v_iconst (v := 0) g dk_1_branch_33 (by decide) (pc' := 34) rfl ?_
        exact v_zret g hr hlk hK rfl (Option.some.inj hf) dk_1_branch_34
abbrev rm_MX_otherwise : Room := { frames := 1, cells := 0, slots := 0, locals := 21 }
def m_MX_otherwise (S : StM) (x1 : Int32) (x2 : Int32) : Option (Int32 × StM) :=
  (m_MX_in S x1 (gI S 4)).bind fun q1 =>
    if q1 = 0 then some (0, S)
    else if inb x1 24 = true then some (1, tA (tA S 16 x1 (vp_nar .boolean 1)) 14 x1 x2) else none
set_option maxHeartbeats 4000000 in
set_option maxRecDepth 100000 in
theorem c_MX_otherwise {l : Launch} {D : va_G} {ad : Nat → Nat} {ca : Nat → ClassId} {S : StM} {x1 : Int32} {x2 : Int32} {r : Int32 × StM} (hf : m_MX_otherwise S x1 x2 = some r) : KIM l D ad ca yk_1_otherwise (.code yk_1_otherwise bk_1_otherwise 3 (some .boolean) :: tb) rm_MX_otherwise [.ref (ad 0), .int x1, .int x2] S r := by
  refine met_z (by decide) (Nat.le_of_ble_eq_true rfl) (fun p e s m below meth c A g hr hlk hK hA => ?_)
  replace g : CallFix p m c bk_1_otherwise 3 s _ tb Rk_1 := g
  refine v_lv (lv' := [(0, .ref (ad 0)), (1, .int x1), (2, .int x2)]) rfl ?_
  unfold m_MX_otherwise at hf
  refine v_iload_n g dk_1_otherwise_0 1 rfl rfl (pc' := 1) rfl ?_
  refine v_aload_n g dk_1_otherwise_1 0 rfl rfl (pc' := 2) rfl ?_
  refine gfM_X_119 g hK dk_1_otherwise_2 (pc' := 5) rfl ?_
  obtain ⟨q1, hq, hf⟩ := bnd hf
  refine v_callS_i (As := [.int x1, .int (gI S 4)]) (rest := []) (r := q1) (S1 := S) g hK hA (c_MX_in hq) (kcM_X_102 g.2.2.2.2 rfl rfl (Nat.le_of_ble_eq_true rfl) (Nat.le_of_ble_eq_true rfl)) rfl rfl (Nat.le_of_ble_eq_true rfl) dk_1_otherwise_5 (Nat.zero_le _) (Nat.zero_le _) (pc' := 8) rfl ?_
  refine v_if_ne (tgt := 13) (pc' := 11) g dk_1_otherwise_8 (by decide) rfl (fun hc => ?_) (fun hc => ?_)
  · replace hf := ifF hc hf
    refine v_aload_n g dk_1_otherwise_13 0 rfl rfl (pc' := 14) rfl ?_
    refine gfM_X_59 g hK dk_1_otherwise_14 (pc' := 17) rfl ?_
    refine v_iload_n g dk_1_otherwise_17 1 rfl rfl (pc' := 18) rfl ?_
    refine v_iconst (v := 1) g dk_1_otherwise_18 (by decide) (pc' := 19) rfl ?_
    obtain ⟨hb2, hf⟩ := grd hf
    refine asM_17 g hK hb2 dk_1_otherwise_19 (pc' := 20) rfl ?_
    refine v_aload_n g dk_1_otherwise_20 0 rfl rfl (pc' := 21) rfl ?_
    refine gfM_X_53 g hK dk_1_otherwise_21 (pc' := 24) rfl ?_
    refine v_iload_n g dk_1_otherwise_24 1 rfl rfl (pc' := 25) rfl ?_
    refine v_iload_n g dk_1_otherwise_25 2 rfl rfl (pc' := 26) rfl ?_
    refine asM_15 g hK hb2 dk_1_otherwise_26 (pc' := 27) rfl ?_
    refine v_iconst (v := 1) g dk_1_otherwise_27 (by decide) (pc' := 28) rfl ?_
    exact v_zret g hr hlk hK rfl (Option.some.inj hf) dk_1_otherwise_28
  · replace hf := ifT hc hf
    refine v_iconst (v := 0) g dk_1_otherwise_11 (by decide) (pc' := 12) rfl ?_
    exact v_zret g hr hlk hK rfl (Option.some.inj hf) dk_1_otherwise_12
abbrev rm_MX_give : Room := { frames := 0, cells := 0, slots := 0, locals := 0 }
def m_MX_give (S : StM) (x1 : Int32) (x2 : Int32) : Option StM :=
  if inb ((960 : Int32) + x1) 976 = true then some (tA S 5 ((960 : Int32) + x1) x2) else none
set_option maxHeartbeats 4000000 in
set_option maxRecDepth 100000 in
theorem c_MX_give {l : Launch} {D : va_G} {ad : Nat → Nat} {ca : Nat → ClassId} {S : StM} {x1 : Int32} {x2 : Int32} {r : StM} (hf : m_MX_give S x1 x2 = some r) : KVM l D ad ca yk_1_give (.code yk_1_give bk_1_give 3 none :: tb) rm_MX_give [.ref (ad 0), .int x1, .int x2] S r := by
  refine met_v (by decide) (Nat.le_of_ble_eq_true rfl) (fun p e s m below meth c A g hr hlk hK hA => ?_)
  replace g : CallFix p m c bk_1_give 3 s _ tb Rk_1 := g
  refine v_lv (lv' := [(0, .ref (ad 0)), (1, .int x1), (2, .int x2)]) rfl ?_
  unfold m_MX_give at hf
  refine v_aload_n g dk_1_give_0 0 rfl rfl (pc' := 1) rfl ?_
  refine gfM_X_25 g hK dk_1_give_1 (pc' := 4) rfl ?_
  refine v_sipush (v := 960) g dk_1_give_4 (by decide) (pc' := 7) rfl ?_
  refine v_iload_n g dk_1_give_7 1 rfl rfl (pc' := 8) rfl ?_
  refine v_iadd g dk_1_give_8 (pc' := 9) rfl ?_
  refine v_iload_n g dk_1_give_9 2 rfl rfl (pc' := 10) rfl ?_
  obtain ⟨hb1, hf⟩ := grd hf
  refine asM_6 g hK hb1 dk_1_give_10 (pc' := 11) rfl ?_
  exact v_vret g hr hlk hK  (Option.some.inj hf) dk_1_give_11
abbrev rm_MX_isAlike : Room := { frames := 0, cells := 0, slots := 0, locals := 0 }
def L_MX_isAlike_24 (S : StM) (x1 : Int32) (x2 : Int32) : Nat → Int32 → Int32 → Option (Int32)
  | 0, _, _ => none
  | n + 1, x3, x4 =>
    if (gI S 0) ≤ x4 then some x3
    else if x3 = 0 then L_MX_isAlike_24 S x1 x2 n 0 (x4 + 1)
    else if inb x4 16 = true then if (gA S 0 x4.toNatClampNeg) = (-1) then if inb (((16 : Int32) * x1) + x4) 976 = true then if inb (((16 : Int32) * x2) + x4) 976 = true then if (gA S 5 (((16 : Int32) * x1) + x4).toNatClampNeg) = (gA S 5 (((16 : Int32) * x2) + x4).toNatClampNeg) then L_MX_isAlike_24 S x1 x2 n 1 (x4 + 1)
    else L_MX_isAlike_24 S x1 x2 n 0 (x4 + 1) else none else none
    else L_MX_isAlike_24 S x1 x2 n 1 (x4 + 1) else none
set_option maxHeartbeats 4000000 in
set_option maxRecDepth 100000 in
theorem w_MX_isAlike_24 {p : Program} {l : Launch} {e : Env} {s : State} {m : MethodId} {args : Array Value} {below : List Frame} {meth : Method} {c : Code} {A : Nat → Prop} {D : va_G} {ad : Nat → Nat} {ca : Nat → ClassId} {Rm : Int32 × StM} {S : StM} {x1 : Int32} {x2 : Int32} (g : CallFix p m c bk_1_isAlike 5 s args tb Rk_1) (hr : meth.sig.returnType = some .boolean) (hlk : meth.locks = false) (hK : va_K D vwCl (tyM ca) s) (hA : ∀ q, s.heap.size ≤ q → A q) : ∀ (n : Nat) (x3 : Int32) (x4 : Int32) (o : Int32), L_MX_isAlike_24 S x1 x2 n x3 x4 = some o → (Vj p l e rm_MX_isAlike s m args below meth c (MQ below (qI D vwCl (tyM ca) (wdM ad ca) A Rm) args s 0 0 A) D vwCl A 5 0 0 (wdM ad ca S) 87 [(3, .int o)] []) → Vj p l e rm_MX_isAlike s m args below meth c (MQ below (qI D vwCl (tyM ca) (wdM ad ca) A Rm) args s 0 0 A) D vwCl A 5 0 0 (wdM ad ca S) 24 [(0, .ref (ad 0)), (1, .int x1), (2, .int x2), (3, .int x3), (4, .int x4)] [] := by
  intro n
  induction n with
  | zero => intro x3 x4 o hf; exact nomatch (show none = some o from hf)
  | succ n ih =>
    intro x3 x4 o hf hx
    rw [L_MX_isAlike_24] at hf
    refine v_iload g dk_1_isAlike_24 4 rfl (pc' := 26) rfl ?_
    refine v_aload_n g dk_1_isAlike_26 0 rfl rfl (pc' := 27) rfl ?_
    refine gfM_X_99 g hK dk_1_isAlike_27 (pc' := 30) rfl ?_
    refine v_icmp_ge (tgt := 87) (pc' := 33) g dk_1_isAlike_30 (by decide) rfl (fun hc => ?_) (fun hc => ?_)
    · replace hf := ifT hc hf
      refine v_sub [3] rfl ?_
      have e9 := Option.some.inj hf
      subst e9
      exact hx
    · replace hf := ifF hc hf
      refine v_iload_n g dk_1_isAlike_33 3 rfl rfl (pc' := 34) rfl ?_
      refine v_if_eq (tgt := 79) (pc' := 37) g dk_1_isAlike_34 (by decide) rfl (fun hc => ?_) (fun hc => ?_)
      · replace hf := ifT hc hf
        refine v_iconst (v := 0) g dk_1_isAlike_79 (by decide) (pc' := 80) rfl ?_
        refine v_istore_n (lv' := [(3, .int 0), (0, .ref (ad 0)), (1, .int x1), (2, .int x2), (4, .int x4)]) g dk_1_isAlike_80 rfl (by decide) rfl (pc' := 81) rfl ?_
        refine v_iinc (j := 4) (v := x4 + 1) (lv' := [(4, .int (x4 + 1)), (3, .int 0), (0, .ref (ad 0)), (1, .int x1), (2, .int x2)]) g dk_1_isAlike_81 rfl rfl (by decide) rfl (pc' := 84) rfl ?_
        refine v_goto (tgt := 24) g dk_1_isAlike_84 (by decide) ?_
        refine v_sub [2, 3, 4, 1, 0] rfl ?_
        exact ih 0 (x4 + 1) o hf hx
      · replace hf := ifF hc hf
        refine v_aload_n g dk_1_isAlike_37 0 rfl rfl (pc' := 38) rfl ?_
        refine gfM_X_7 g hK dk_1_isAlike_38 (pc' := 41) rfl ?_
        refine v_iload g dk_1_isAlike_41 4 rfl (pc' := 43) rfl ?_
        obtain ⟨hb3, hf⟩ := grd hf
        refine alM_1 g hK hb3 dk_1_isAlike_43 (pc' := 44) rfl ?_
        refine v_iconst (v := (-1)) g dk_1_isAlike_44 (by decide) (pc' := 45) rfl ?_
        refine v_icmp_ne (tgt := 75) (pc' := 48) g dk_1_isAlike_45 (by decide) rfl (fun hc => ?_) (fun hc => ?_)
        · replace hf := ifF hc hf
          refine v_iconst (v := 1) g dk_1_isAlike_75 (by decide) (pc' := 76) rfl ?_
          refine v_goto (tgt := 80) g dk_1_isAlike_76 (by decide) ?_
          refine v_istore_n (lv' := [(3, .int 1), (0, .ref (ad 0)), (1, .int x1), (2, .int x2), (4, .int x4)]) g dk_1_isAlike_80 rfl (by decide) rfl (pc' := 81) rfl ?_
          refine v_iinc (j := 4) (v := x4 + 1) (lv' := [(4, .int (x4 + 1)), (3, .int 1), (0, .ref (ad 0)), (1, .int x1), (2, .int x2)]) g dk_1_isAlike_81 rfl rfl (by decide) rfl (pc' := 84) rfl ?_
          refine v_goto (tgt := 24) g dk_1_isAlike_84 (by decide) ?_
          refine v_sub [2, 3, 4, 1, 0] rfl ?_
          exact ih 1 (x4 + 1) o hf hx
        · replace hf := ifT hc hf
          refine v_aload_n g dk_1_isAlike_48 0 rfl rfl (pc' := 49) rfl ?_
          refine gfM_X_25 g hK dk_1_isAlike_49 (pc' := 52) rfl ?_
          refine v_bipush (v := 16) g dk_1_isAlike_52 (by decide) (pc' := 54) rfl ?_
          refine v_iload_n g dk_1_isAlike_54 1 rfl rfl (pc' := 55) rfl ?_
          refine v_imul g dk_1_isAlike_55 (pc' := 56) rfl ?_
          refine v_iload g dk_1_isAlike_56 4 rfl (pc' := 58) rfl ?_
          refine v_iadd g dk_1_isAlike_58 (pc' := 59) rfl ?_
          obtain ⟨hb4, hf⟩ := grd hf
          refine alM_6 g hK hb4 dk_1_isAlike_59 (pc' := 60) rfl ?_
          refine v_aload_n g dk_1_isAlike_60 0 rfl rfl (pc' := 61) rfl ?_
          refine gfM_X_25 g hK dk_1_isAlike_61 (pc' := 64) rfl ?_
          refine v_bipush (v := 16) g dk_1_isAlike_64 (by decide) (pc' := 66) rfl ?_
          refine v_iload_n g dk_1_isAlike_66 2 rfl rfl (pc' := 67) rfl ?_
          refine v_imul g dk_1_isAlike_67 (pc' := 68) rfl ?_
          refine v_iload g dk_1_isAlike_68 4 rfl (pc' := 70) rfl ?_
          refine v_iadd g dk_1_isAlike_70 (pc' := 71) rfl ?_
          obtain ⟨hb5, hf⟩ := grd hf
          refine alM_6 g hK hb5 dk_1_isAlike_71 (pc' := 72) rfl ?_
          refine v_icmp_ne (tgt := 79) (pc' := 75) g dk_1_isAlike_72 (by decide) rfl (fun hc => ?_) (fun hc => ?_)
          · replace hf := ifF hc hf
            refine v_iconst (v := 0) g dk_1_isAlike_79 (by decide) (pc' := 80) rfl ?_
            refine v_istore_n (lv' := [(3, .int 0), (0, .ref (ad 0)), (1, .int x1), (2, .int x2), (4, .int x4)]) g dk_1_isAlike_80 rfl (by decide) rfl (pc' := 81) rfl ?_
            refine v_iinc (j := 4) (v := x4 + 1) (lv' := [(4, .int (x4 + 1)), (3, .int 0), (0, .ref (ad 0)), (1, .int x1), (2, .int x2)]) g dk_1_isAlike_81 rfl rfl (by decide) rfl (pc' := 84) rfl ?_
            refine v_goto (tgt := 24) g dk_1_isAlike_84 (by decide) ?_
            refine v_sub [2, 3, 4, 1, 0] rfl ?_
            exact ih 0 (x4 + 1) o hf hx
          · replace hf := ifT hc hf
            refine v_iconst (v := 1) g dk_1_isAlike_75 (by decide) (pc' := 76) rfl ?_
            refine v_goto (tgt := 80) g dk_1_isAlike_76 (by decide) ?_
            refine v_istore_n (lv' := [(3, .int 1), (0, .ref (ad 0)), (1, .int x1), (2, .int x2), (4, .int x4)]) g dk_1_isAlike_80 rfl (by decide) rfl (pc' := 81) rfl ?_
            refine v_iinc (j := 4) (v := x4 + 1) (lv' := [(4, .int (x4 + 1)), (3, .int 1), (0, .ref (ad 0)), (1, .int x1), (2, .int x2)]) g dk_1_isAlike_81 rfl rfl (by decide) rfl (pc' := 84) rfl ?_
            refine v_goto (tgt := 24) g dk_1_isAlike_84 (by decide) ?_
            refine v_sub [2, 3, 4, 1, 0] rfl ?_
            exact ih 1 (x4 + 1) o hf hx
def m_MX_isAlike (S : StM) (x1 : Int32) (x2 : Int32) : Option Int32 :=
  if inb x1 61 = true then if inb x2 61 = true then if (gA S 4 x1.toNatClampNeg) = (gA S 4 x2.toNatClampNeg) then (L_MX_isAlike_24 S x1 x2 100 1 0).bind fun y9 =>
    if isB y9 = true then some y9 else none
    else (L_MX_isAlike_24 S x1 x2 100 0 0).bind fun y7 =>
    if isB y7 = true then some y7 else none else none else none
set_option maxHeartbeats 4000000 in
set_option maxRecDepth 100000 in
theorem c_MX_isAlike {l : Launch} {D : va_G} {ad : Nat → Nat} {ca : Nat → ClassId} {S : StM} {x1 : Int32} {x2 : Int32} {r : Int32} (hf : m_MX_isAlike S x1 x2 = some r) : KIM l D ad ca yk_1_isAlike (.code yk_1_isAlike bk_1_isAlike 5 (some .boolean) :: tb) rm_MX_isAlike [.ref (ad 0), .int x1, .int x2] S (r, S) := by
  refine met_z (by decide) (Nat.le_of_ble_eq_true rfl) (fun p e s m below meth c A g hr hlk hK hA => ?_)
  replace g : CallFix p m c bk_1_isAlike 5 s _ tb Rk_1 := g
  refine v_lv (lv' := [(0, .ref (ad 0)), (1, .int x1), (2, .int x2)]) rfl ?_
  unfold m_MX_isAlike at hf
  refine v_aload_n g dk_1_isAlike_0 0 rfl rfl (pc' := 1) rfl ?_
  refine gfM_X_22 g hK dk_1_isAlike_1 (pc' := 4) rfl ?_
  refine v_iload_n g dk_1_isAlike_4 1 rfl rfl (pc' := 5) rfl ?_
  obtain ⟨hb1, hf⟩ := grd hf
  refine alM_5 g hK hb1 dk_1_isAlike_5 (pc' := 6) rfl ?_
  refine v_aload_n g dk_1_isAlike_6 0 rfl rfl (pc' := 7) rfl ?_
  refine gfM_X_22 g hK dk_1_isAlike_7 (pc' := 10) rfl ?_
  refine v_iload_n g dk_1_isAlike_10 2 rfl rfl (pc' := 11) rfl ?_
  obtain ⟨hb2, hf⟩ := grd hf
  refine alM_5 g hK hb2 dk_1_isAlike_11 (pc' := 12) rfl ?_
  refine v_icmp_ne (tgt := 19) (pc' := 15) g dk_1_isAlike_12 (by decide) rfl (fun hc => ?_) (fun hc => ?_)
  · replace hf := ifF hc hf
    refine v_iconst (v := 0) g dk_1_isAlike_19 (by decide) (pc' := 20) rfl ?_
    refine v_istore_n (lv' := [(3, .int 0), (0, .ref (ad 0)), (1, .int x1), (2, .int x2)]) g dk_1_isAlike_20 rfl (by decide) rfl (pc' := 21) rfl ?_
    refine v_iconst (v := 0) g dk_1_isAlike_21 (by decide) (pc' := 22) rfl ?_
    refine v_istore (lv' := [(4, .int 0), (3, .int 0), (0, .ref (ad 0)), (1, .int x1), (2, .int x2)]) g dk_1_isAlike_22 (by decide) rfl (pc' := 24) rfl ?_
    refine v_sub [2, 3, 4, 1, 0] rfl ?_
    obtain ⟨y7, hL, hf⟩ := bnd hf
    refine w_MX_isAlike_24 g hr hlk hK hA 100 0 0 _ hL ?_
    refine v_iload_n g dk_1_isAlike_87 0 rfl rfl (pc' := 88) rfl ?_
    obtain ⟨hz, hf⟩ := grd hf
    exact v_zret g hr hlk hK hz (pinj hf) dk_1_isAlike_88
  · replace hf := ifT hc hf
    refine v_iconst (v := 1) g dk_1_isAlike_15 (by decide) (pc' := 16) rfl ?_
    refine v_goto (tgt := 20) g dk_1_isAlike_16 (by decide) ?_
    refine v_istore_n (lv' := [(3, .int 1), (0, .ref (ad 0)), (1, .int x1), (2, .int x2)]) g dk_1_isAlike_20 rfl (by decide) rfl (pc' := 21) rfl ?_
    refine v_iconst (v := 0) g dk_1_isAlike_21 (by decide) (pc' := 22) rfl ?_
    refine v_istore (lv' := [(4, .int 0), (3, .int 1), (0, .ref (ad 0)), (1, .int x1), (2, .int x2)]) g dk_1_isAlike_22 (by decide) rfl (pc' := 24) rfl ?_
    refine v_sub [2, 3, 4, 1, 0] rfl ?_
    obtain ⟨y9, hL, hf⟩ := bnd hf
    refine w_MX_isAlike_24 g hr hlk hK hA 100 1 0 _ hL ?_
    refine v_iload_n g dk_1_isAlike_87 0 rfl rfl (pc' := 88) rfl ?_
    obtain ⟨hz, hf⟩ := grd hf
    exact v_zret g hr hlk hK hz (pinj hf) dk_1_isAlike_88
abbrev rm_MX_copy : Room := { frames := 0, cells := 0, slots := 0, locals := 0 }
def L_MX_copy_14 (x1 : Int32) (x2 : Int32) : Nat → StM → Int32 → Option (StM)
  | 0, _, _ => none
  | n + 1, S, x3 =>
    if 16 ≤ x3 then some S
    else if inb (((16 : Int32) * x1) + x3) 976 = true then if inb (((16 : Int32) * x2) + x3) 976 = true then L_MX_copy_14 x1 x2 n (tA S 5 (((16 : Int32) * x2) + x3) (gA S 5 (((16 : Int32) * x1) + x3).toNatClampNeg)) (x3 + 1) else none else none
set_option maxHeartbeats 4000000 in
set_option maxRecDepth 100000 in
theorem w_MX_copy_14 {p : Program} {l : Launch} {e : Env} {s : State} {m : MethodId} {args : Array Value} {below : List Frame} {meth : Method} {c : Code} {A : Nat → Prop} {D : va_G} {ad : Nat → Nat} {ca : Nat → ClassId} {Rm : StM} {x1 : Int32} {x2 : Int32} (g : CallFix p m c bk_1_copy 4 s args tb Rk_1) (hr : meth.sig.returnType = none) (hlk : meth.locks = false) (hK : va_K D vwCl (tyM ca) s) (hA : ∀ q, s.heap.size ≤ q → A q) : ∀ (n : Nat) (S : StM) (x3 : Int32) (o : StM), L_MX_copy_14 x1 x2 n S x3 = some o → (Vj p l e rm_MX_copy s m args below meth c (MQ below (qV D vwCl (tyM ca) (wdM ad ca) A Rm) args s 0 0 A) D vwCl A 4 0 0 (wdM ad ca o) 48 [] []) → Vj p l e rm_MX_copy s m args below meth c (MQ below (qV D vwCl (tyM ca) (wdM ad ca) A Rm) args s 0 0 A) D vwCl A 4 0 0 (wdM ad ca S) 14 [(0, .ref (ad 0)), (1, .int x1), (2, .int x2), (3, .int x3)] [] := by
  intro n
  induction n with
  | zero => intro S x3 o hf; exact nomatch (show none = some o from hf)
  | succ n ih =>
    intro S x3 o hf hx
    rw [L_MX_copy_14] at hf
    refine v_iload_n g dk_1_copy_14 3 rfl rfl (pc' := 15) rfl ?_
    refine v_bipush (v := 16) g dk_1_copy_15 (by decide) (pc' := 17) rfl ?_
    refine v_icmp_ge (tgt := 48) (pc' := 20) g dk_1_copy_17 (by decide) rfl (fun hc => ?_) (fun hc => ?_)
    · replace hf := ifT hc hf
      refine v_sub [] rfl ?_
      have e9 := Option.some.inj hf
      subst e9
      exact hx
    · replace hf := ifF hc hf
      refine v_aload_n g dk_1_copy_20 0 rfl rfl (pc' := 21) rfl ?_
      refine gfM_X_25 g hK dk_1_copy_21 (pc' := 24) rfl ?_
      refine v_bipush (v := 16) g dk_1_copy_24 (by decide) (pc' := 26) rfl ?_
      refine v_iload_n g dk_1_copy_26 2 rfl rfl (pc' := 27) rfl ?_
      refine v_imul g dk_1_copy_27 (pc' := 28) rfl ?_
      refine v_iload_n g dk_1_copy_28 3 rfl rfl (pc' := 29) rfl ?_
      refine v_iadd g dk_1_copy_29 (pc' := 30) rfl ?_
      refine v_aload_n g dk_1_copy_30 0 rfl rfl (pc' := 31) rfl ?_
      refine gfM_X_25 g hK dk_1_copy_31 (pc' := 34) rfl ?_
      refine v_bipush (v := 16) g dk_1_copy_34 (by decide) (pc' := 36) rfl ?_
      refine v_iload_n g dk_1_copy_36 1 rfl rfl (pc' := 37) rfl ?_
      refine v_imul g dk_1_copy_37 (pc' := 38) rfl ?_
      refine v_iload_n g dk_1_copy_38 3 rfl rfl (pc' := 39) rfl ?_
      refine v_iadd g dk_1_copy_39 (pc' := 40) rfl ?_
      obtain ⟨hb3, hf⟩ := grd hf
      refine alM_6 g hK hb3 dk_1_copy_40 (pc' := 41) rfl ?_
      obtain ⟨hb4, hf⟩ := grd hf
      refine asM_6 g hK hb4 dk_1_copy_41 (pc' := 42) rfl ?_
      refine v_iinc (j := 3) (v := x3 + 1) (lv' := [(3, .int (x3 + 1)), (0, .ref (ad 0)), (1, .int x1), (2, .int x2)]) g dk_1_copy_42 rfl rfl (by decide) rfl (pc' := 45) rfl ?_
      refine v_goto (tgt := 14) g dk_1_copy_45 (by decide) ?_
      refine v_sub [1, 2, 3, 0] rfl ?_
      exact ih (tA S 5 (((16 : Int32) * x2) + x3) (gA S 5 (((16 : Int32) * x1) + x3).toNatClampNeg)) (x3 + 1) o hf hx
def m_MX_copy (S : StM) (x1 : Int32) (x2 : Int32) : Option StM :=
  if inb x1 61 = true then if inb x2 61 = true then (L_MX_copy_14 x1 x2 100 (tA S 4 x2 (gA S 4 x1.toNatClampNeg)) 0).bind fun y6 =>
    some y6 else none else none
set_option maxHeartbeats 4000000 in
set_option maxRecDepth 100000 in
theorem c_MX_copy {l : Launch} {D : va_G} {ad : Nat → Nat} {ca : Nat → ClassId} {S : StM} {x1 : Int32} {x2 : Int32} {r : StM} (hf : m_MX_copy S x1 x2 = some r) : KVM l D ad ca yk_1_copy (.code yk_1_copy bk_1_copy 4 none :: tb) rm_MX_copy [.ref (ad 0), .int x1, .int x2] S r := by
  refine met_v (by decide) (Nat.le_of_ble_eq_true rfl) (fun p e s m below meth c A g hr hlk hK hA => ?_)
  replace g : CallFix p m c bk_1_copy 4 s _ tb Rk_1 := g
  refine v_lv (lv' := [(0, .ref (ad 0)), (1, .int x1), (2, .int x2)]) rfl ?_
  unfold m_MX_copy at hf
  refine v_aload_n g dk_1_copy_0 0 rfl rfl (pc' := 1) rfl ?_
  refine gfM_X_22 g hK dk_1_copy_1 (pc' := 4) rfl ?_
  refine v_iload_n g dk_1_copy_4 2 rfl rfl (pc' := 5) rfl ?_
  refine v_aload_n g dk_1_copy_5 0 rfl rfl (pc' := 6) rfl ?_
  refine gfM_X_22 g hK dk_1_copy_6 (pc' := 9) rfl ?_
  refine v_iload_n g dk_1_copy_9 1 rfl rfl (pc' := 10) rfl ?_
  obtain ⟨hb1, hf⟩ := grd hf
  refine alM_5 g hK hb1 dk_1_copy_10 (pc' := 11) rfl ?_
  obtain ⟨hb2, hf⟩ := grd hf
  refine asM_5 g hK hb2 dk_1_copy_11 (pc' := 12) rfl ?_
  refine v_iconst (v := 0) g dk_1_copy_12 (by decide) (pc' := 13) rfl ?_
  refine v_istore_n (lv' := [(3, .int 0), (0, .ref (ad 0)), (1, .int x1), (2, .int x2)]) g dk_1_copy_13 rfl (by decide) rfl (pc' := 14) rfl ?_
  refine v_sub [1, 2, 3, 0] rfl ?_
  obtain ⟨y6, hL, hf⟩ := bnd hf
  refine w_MX_copy_14 g hr hlk hK hA 100 (tA S 4 x2 (gA S 4 x1.toNatClampNeg)) 0 _ hL ?_
  exact v_vret g hr hlk hK  (Option.some.inj hf) dk_1_copy_48
abbrev rm_MX_numbered : Room := { frames := 1, cells := 0, slots := 0, locals := 24 }
def L_MX_numbered_2 (S : StM) : Nat → Int32 → Option (Unit ⊕ (Int32 × StM))
  | 0, _ => none
  | n + 1, x1 =>
    if (gI S 2) ≤ x1 then some (.inl ())
    else (m_MX_isAlike S x1 60).bind fun q1 =>
    if q1 = 0 then L_MX_numbered_2 S n (x1 + 1)
    else some (.inr (x1, S))
set_option maxHeartbeats 4000000 in
set_option maxRecDepth 100000 in
theorem w_MX_numbered_2 {p : Program} {l : Launch} {e : Env} {s : State} {m : MethodId} {args : Array Value} {below : List Frame} {meth : Method} {c : Code} {A : Nat → Prop} {D : va_G} {ad : Nat → Nat} {ca : Nat → ClassId} {Rm : Int32 × StM} {S : StM} (g : CallFix p m c bk_1_numbered 2 s args tb Rk_1) (hr : meth.sig.returnType = some .int) (hlk : meth.locks = false) (hK : va_K D vwCl (tyM ca) s) (hA : ∀ q, s.heap.size ≤ q → A q) : ∀ (n : Nat) (x1 : Int32) (o : Unit ⊕ (Int32 × StM)), L_MX_numbered_2 S n x1 = some o → (∀ y, o = .inl y → Vj p l e rm_MX_numbered s m args below meth c (MQ below (qI D vwCl (tyM ca) (wdM ad ca) A Rm) args s 0 0 A) D vwCl A 2 0 0 (wdM ad ca S) 28 [(0, .ref (ad 0))] []) → (∀ r, o = .inr r → r = Rm) → Vj p l e rm_MX_numbered s m args below meth c (MQ below (qI D vwCl (tyM ca) (wdM ad ca) A Rm) args s 0 0 A) D vwCl A 2 0 0 (wdM ad ca S) 2 [(0, .ref (ad 0)), (1, .int x1)] [] := by
  intro n
  induction n with
  | zero => intro x1 o hf; exact nomatch (show none = some o from hf)
  | succ n ih =>
    intro x1 o hf hx hret
    rw [L_MX_numbered_2] at hf
    refine v_iload_n g dk_1_numbered_2 1 rfl rfl (pc' := 3) rfl ?_
    refine v_aload_n g dk_1_numbered_3 0 rfl rfl (pc' := 4) rfl ?_
    refine gfM_X_113 g hK dk_1_numbered_4 (pc' := 7) rfl ?_
    refine v_icmp_ge (tgt := 28) (pc' := 10) g dk_1_numbered_7 (by decide) rfl (fun hc => ?_) (fun hc => ?_)
    · replace hf := ifT hc hf
      refine v_sub [0] rfl ?_
      exact hx _ (Option.some.inj hf).symm
    · replace hf := ifF hc hf
      refine v_aload_n g dk_1_numbered_10 0 rfl rfl (pc' := 11) rfl ?_
      refine v_iload_n g dk_1_numbered_11 1 rfl rfl (pc' := 12) rfl ?_
      refine v_bipush (v := 60) g dk_1_numbered_12 (by decide) (pc' := 14) rfl ?_
      obtain ⟨q1, hq, hf⟩ := bnd hf
      refine v_callV_i (As := [.int x1, .int 60]) (rest := []) (r := q1) (S1 := S) g hK hA (c_MX_isAlike hq) (kcM_X_147 g.2.2.2.2 rfl rfl (Nat.le_of_ble_eq_true rfl) (Nat.le_of_ble_eq_true rfl)) (ci := 1) (q0 := 0) rfl rfl rfl rfl rfl (Nat.le_of_ble_eq_true rfl) dk_1_numbered_14 (Nat.zero_le _) (Nat.zero_le _) (pc' := 17) rfl ?_
      refine v_if_eq (tgt := 22) (pc' := 20) g dk_1_numbered_17 (by decide) rfl (fun hc => ?_) (fun hc => ?_)
      · replace hf := ifT hc hf
        refine v_iinc (j := 1) (v := x1 + 1) (lv' := [(1, .int (x1 + 1)), (0, .ref (ad 0))]) g dk_1_numbered_22 rfl rfl (by decide) rfl (pc' := 25) rfl ?_
        refine v_goto (tgt := 2) g dk_1_numbered_25 (by decide) ?_
        refine v_sub [1, 0] rfl ?_
        exact ih (x1 + 1) o hf hx hret
      · replace hf := ifF hc hf
        refine v_iload_n g dk_1_numbered_20 1 rfl rfl (pc' := 21) rfl ?_
        exact v_iret g hr hlk hK  (hret _ (Option.some.inj hf).symm) dk_1_numbered_21
def m_MX_numbered (S : StM) : Option (Int32 × StM) :=
  (L_MX_numbered_2 S 100 0).bind fun o2 => exK o2 fun y3 =>
    if (gI S 2) = 60 then some ((-1), S)
    else (m_MX_copy S 60 (gI S 2)).bind fun q4 =>
    some (((gI q4 2) + (1 : Int32)) - (1 : Int32), sI q4 2 ((gI q4 2) + (1 : Int32)))
set_option maxHeartbeats 4000000 in
set_option maxRecDepth 100000 in
theorem c_MX_numbered {l : Launch} {D : va_G} {ad : Nat → Nat} {ca : Nat → ClassId} {S : StM} {r : Int32 × StM} (hf : m_MX_numbered S = some r) : KIM l D ad ca yk_1_numbered (.code yk_1_numbered bk_1_numbered 2 (some .int) :: tb) rm_MX_numbered [.ref (ad 0)] S r := by
  refine met_i (by decide) (Nat.le_of_ble_eq_true rfl) (fun p e s m below meth c A g hr hlk hK hA => ?_)
  replace g : CallFix p m c bk_1_numbered 2 s _ tb Rk_1 := g
  refine v_lv (lv' := [(0, .ref (ad 0))]) rfl ?_
  unfold m_MX_numbered at hf
  refine v_iconst (v := 0) g dk_1_numbered_0 (by decide) (pc' := 1) rfl ?_
  refine v_istore_n (lv' := [(1, .int 0), (0, .ref (ad 0))]) g dk_1_numbered_1 rfl (by decide) rfl (pc' := 2) rfl ?_
  refine v_sub [1, 0] rfl ?_
  obtain ⟨o2, hL, hf⟩ := bnd hf
  refine w_MX_numbered_2 g hr hlk hK hA 100 0 _ hL (fun y3 hy => ?_) (fun r9 hy => ?_)
  · subst hy
    replace hf := exKl hf
    refine v_aload_n g dk_1_numbered_28 0 rfl rfl (pc' := 29) rfl ?_
    refine gfM_X_113 g hK dk_1_numbered_29 (pc' := 32) rfl ?_
    refine v_bipush (v := 60) g dk_1_numbered_32 (by decide) (pc' := 34) rfl ?_
    refine v_icmp_ne (tgt := 39) (pc' := 37) g dk_1_numbered_34 (by decide) rfl (fun hc => ?_) (fun hc => ?_)
    · replace hf := ifF hc hf
      refine v_aload_n g dk_1_numbered_39 0 rfl rfl (pc' := 40) rfl ?_
      refine v_bipush (v := 60) g dk_1_numbered_40 (by decide) (pc' := 42) rfl ?_
      refine v_aload_n g dk_1_numbered_42 0 rfl rfl (pc' := 43) rfl ?_
      refine gfM_X_113 g hK dk_1_numbered_43 (pc' := 46) rfl ?_
      obtain ⟨q4, hq, hf⟩ := bnd hf
      refine v_callV_v (As := [.int 60, .int (gI S 2)]) (rest := []) (S1 := q4) g hK hA (c_MX_copy hq) (kcM_X_150 g.2.2.2.2 rfl rfl (Nat.le_of_ble_eq_true rfl) (Nat.le_of_ble_eq_true rfl)) (ci := 1) (q0 := 0) rfl rfl rfl rfl rfl (Nat.le_of_ble_eq_true rfl) dk_1_numbered_46 (Nat.zero_le _) (Nat.zero_le _) (pc' := 49) rfl ?_
      refine v_aload_n g dk_1_numbered_49 0 rfl rfl (pc' := 50) rfl ?_
      refine v_dup g dk_1_numbered_50 rfl (pc' := 51) rfl ?_
      refine gfM_X_113 g hK dk_1_numbered_51 (pc' := 54) rfl ?_
      refine v_iconst (v := 1) g dk_1_numbered_54 (by decide) (pc' := 55) rfl ?_
      refine v_iadd g dk_1_numbered_55 (pc' := 56) rfl ?_
      refine pfM_X_113 g hK dk_1_numbered_56 (pc' := 59) rfl ?_
      refine v_aload_n g dk_1_numbered_59 0 rfl rfl (pc' := 60) rfl ?_
      refine gfM_X_113 g hK dk_1_numbered_60 (pc' := 63) rfl ?_
      refine v_iconst (v := 1) g dk_1_numbered_63 (by decide) (pc' := 64) rfl ?_
      refine v_isub g dk_1_numbered_64 (pc' := 65) rfl ?_
      exact v_iret g hr hlk hK  (Option.some.inj hf) dk_1_numbered_65
    · replace hf := ifT hc hf
      refine v_iconst (v := (-1)) g dk_1_numbered_37 (by decide) (pc' := 38) rfl ?_
      exact v_iret g hr hlk hK  (Option.some.inj hf) dk_1_numbered_38
  · subst hy
    exact Option.some.inj hf
