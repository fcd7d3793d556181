abbrev rm_MX_chooseAll : Room := { frames := 7, cells := 0, slots := 0, locals := 168 }
def L_MX_chooseAll_54 (x1 : Int32) (x2 : Int32) (x3 : Int32) : Nat → StM → Int32 → Int32 → Int32 → Option (StM)
  | 0, _, _, _, _ => none
  | n + 1, S, x4, x5, x6 =>
    if inb x1 24 = true then if (gA S 11 x1.toNatClampNeg) ≤ x6 then some S
    else if x5 = 0 then if ((x3 >>> (x6 &&& 31)) &&& (1 : Int32)) = 1 then if inb (((8 : Int32) * x1) + x6) 192 = true then if (gA S 15 (((8 : Int32) * x1) + x6).toNatClampNeg) = 0 then if x4 = (-1) then L_MX_chooseAll_54 x1 x2 x3 n (sI (sI (sI (sI (sI (sI S 11 1) 12 (gA S 13 (((8 : Int32) * x1) + x6).toNatClampNeg)) 7 1) 8 (gA S 13 (((8 : Int32) * x1) + x6).toNatClampNeg)) 9 (gI S 13)) 10 (gI S 14)) x6 x5 (x6 + 1)
    else if (1 : Int32) = (gI S 7) then if (gI S 7) = 1 then if (gA S 13 (((8 : Int32) * x1) + x6).toNatClampNeg) = (gI S 8) then L_MX_chooseAll_54 x1 x2 x3 n (sI (sI S 11 1) 12 (gA S 13 (((8 : Int32) * x1) + x6).toNatClampNeg)) x4 x5 (x6 + 1)
    else L_MX_chooseAll_54 x1 x2 x3 n (sI (sI (sI (sI (sI S 11 1) 12 (gA S 13 (((8 : Int32) * x1) + x6).toNatClampNeg)) 7 2) 9 x4) 10 x6) x4 1 (x6 + 1)
    else L_MX_chooseAll_54 x1 x2 x3 n (sI (sI S 11 1) 12 (gA S 13 (((8 : Int32) * x1) + x6).toNatClampNeg)) x4 x5 (x6 + 1)
    else L_MX_chooseAll_54 x1 x2 x3 n (sI (sI (sI (sI (sI S 11 1) 12 (gA S 13 (((8 : Int32) * x1) + x6).toNatClampNeg)) 7 2) 9 x4) 10 x6) x4 1 (x6 + 1)
    else (m_MX_chooseInner (sI (sI S 11 1) 12 (gA S 13 (((8 : Int32) * x1) + x6).toNatClampNeg)) (gA S 13 (((8 : Int32) * x1) + x6).toNatClampNeg) x2).bind fun q5 =>
    if x4 = (-1) then L_MX_chooseAll_54 x1 x2 x3 n (sI (sI (sI (sI q5 7 (gI q5 11)) 8 (gI q5 12)) 9 (gI q5 13)) 10 (gI q5 14)) x6 x5 (x6 + 1)
    else if (gI q5 11) = (gI q5 7) then if (gI q5 7) = 1 then if (gI q5 12) = (gI q5 8) then L_MX_chooseAll_54 x1 x2 x3 n q5 x4 x5 (x6 + 1)
    else L_MX_chooseAll_54 x1 x2 x3 n (sI (sI (sI q5 7 2) 9 x4) 10 x6) x4 1 (x6 + 1)
    else L_MX_chooseAll_54 x1 x2 x3 n q5 x4 x5 (x6 + 1)
    else L_MX_chooseAll_54 x1 x2 x3 n (sI (sI (sI q5 7 2) 9 x4) 10 x6) x4 1 (x6 + 1) else none
    else L_MX_chooseAll_54 x1 x2 x3 n S x4 x5 (x6 + 1)
    else some S else none
set_option maxHeartbeats 4000000 in
set_option maxRecDepth 100000 in
theorem w_MX_chooseAll_54 {p : Program} {l : Launch} {e : Env} {s : State} {m : MethodId} {args : Array Value} {below : List Frame} {meth : Method} {c : Code} {A : Nat → Prop} {D : va_G} {ad : Nat → Nat} {ca : Nat → ClassId} {Rm : StM} {x1 : Int32} {x2 : Int32} {x3 : Int32} (g : CallFix p m c bk_1_chooseAll 8 s args tb Rk_1) (hr : meth.sig.returnType = none) (hlk : meth.locks = false) (hK : va_K D vwCl (tyM ca) s) (hA : ∀ q, s.heap.size ≤ q → A q) : ∀ (n : Nat) (S : StM) (x4 : Int32) (x5 : Int32) (x6 : Int32) (o : StM), L_MX_chooseAll_54 x1 x2 x3 n S x4 x5 x6 = some o → (Vj p l e rm_MX_chooseAll s m args below meth c (MQ below (qV D vwCl (tyM ca) (wdM ad ca) A Rm) args s 0 0 A) D vwCl A 8 0 0 (wdM ad ca o) 228 [] []) → Vj p l e rm_MX_chooseAll s m args below meth c (MQ below (qV D vwCl (tyM ca) (wdM ad ca) A Rm) args s 0 0 A) D vwCl A 8 0 0 (wdM ad ca S) 54 [(0, .ref (ad 0)), (1, .int x1), (2, .int x2), (3, .int x3), (4, .int x4), (5, .int x5), (6, .int x6)] [] := by
  intro n
  induction n with
  | zero => intro S x4 x5 x6 o hf; exact nomatch (show none = some o from hf)
  | succ n ih =>
    intro S x4 x5 x6 o hf hx
    rw [L_MX_chooseAll_54] at hf
    refine v_iload g dk_1_chooseAll_54 6 rfl (pc' := 56) rfl ?_
    refine v_aload_n g dk_1_chooseAll_56 0 rfl rfl (pc' := 57) rfl ?_
    refine gfM_X_44 g hK dk_1_chooseAll_57 (pc' := 60) rfl ?_
    refine v_iload_n g dk_1_chooseAll_60 1 rfl rfl (pc' := 61) rfl ?_
    obtain ⟨hb3, hf⟩ := grd hf
    refine alM_12 g hK hb3 dk_1_chooseAll_61 (pc' := 62) rfl ?_
    refine v_icmp_ge (tgt := 228) (pc' := 65) g dk_1_chooseAll_62 (by decide) rfl (fun hc => ?_) (fun hc => ?_)
    · replace hf := ifT hc hf
      refine v_sub [] rfl ?_
      have e9 := Option.some.inj hf
      subst e9
      exact hx
    · replace hf := ifF hc hf
      refine v_iload g dk_1_chooseAll_65 5 rfl (pc' := 67) rfl ?_
      refine v_if_ne (tgt := 228) (pc' := 70) g dk_1_chooseAll_67 (by decide) rfl (fun hc => ?_) (fun hc => ?_)
      · replace hf := ifF hc hf
        refine v_sub [] rfl ?_
        have e9 := Option.some.inj hf
        subst e9
        exact hx
      · replace hf := ifT hc hf
        refine v_iload_n g dk_1_chooseAll_70 3 rfl rfl (pc' := 71) rfl ?_
        refine v_iload g dk_1_chooseAll_71 6 rfl (pc' := 73) rfl ?_
        refine v_ishr g dk_1_chooseAll_73 (pc' := 74) rfl ?_
        refine v_iconst (v := 1) g dk_1_chooseAll_74 (by decide) (pc' := 75) rfl ?_
        refine v_iand g dk_1_chooseAll_75 (pc' := 76) rfl ?_
        refine v_iconst (v := 1) g dk_1_chooseAll_76 (by decide) (pc' := 77) rfl ?_
        refine v_icmp_ne (tgt := 222) (pc' := 80) g dk_1_chooseAll_77 (by decide) rfl (fun hc => ?_) (fun hc => ?_)
        · replace hf := ifF hc hf
          refine v_iinc (j := 6) (v := x6 + 1) (lv' := [(6, .int (x6 + 1)), (0, .ref (ad 0)), (1, .int x1), (2, .int x2), (3, .int x3), (4, .int x4), (5, .int x5)]) g dk_1_chooseAll_222 rfl rfl (by decide) rfl (pc' := 225) rfl ?_
          refine v_goto (tgt := 54) g dk_1_chooseAll_225 (by decide) ?_
          refine v_sub [1, 2, 3, 4, 5, 6, 0] rfl ?_
          exact ih S x4 x5 (x6 + 1) o hf hx
        · replace hf := ifT hc hf
          refine v_bipush (v := 8) g dk_1_chooseAll_80 (by decide) (pc' := 82) rfl ?_
          refine v_iload_n g dk_1_chooseAll_82 1 rfl rfl (pc' := 83) rfl ?_
          refine v_imul g dk_1_chooseAll_83 (pc' := 84) rfl ?_
          refine v_iload g dk_1_chooseAll_84 6 rfl (pc' := 86) rfl ?_
          refine v_iadd g dk_1_chooseAll_86 (pc' := 87) rfl ?_
          refine v_istore (lv' := [(7, .int (((8 : Int32) * x1) + x6)), (0, .ref (ad 0)), (1, .int x1), (2, .int x2), (3, .int x3), (4, .int x4), (5, .int x5), (6, .int x6)]) g dk_1_chooseAll_87 (by decide) rfl (pc' := 89) rfl ?_
          refine v_aload_n g dk_1_chooseAll_89 1 rfl rfl (pc' := 90) rfl ?_
          refine v_iconst (v := 1) g dk_1_chooseAll_90 (by decide) (pc' := 91) rfl ?_
          refine pfM_X_168 g hK dk_1_chooseAll_91 (pc' := 94) rfl ?_
          refine v_aload_n g dk_1_chooseAll_94 1 rfl rfl (pc' := 95) rfl ?_
          refine v_aload_n g dk_1_chooseAll_95 1 rfl rfl (pc' := 96) rfl ?_
          refine gfM_X_50 g hK dk_1_chooseAll_96 (pc' := 99) rfl ?_
          refine v_iload g dk_1_chooseAll_99 0 rfl (pc' := 101) rfl ?_
          obtain ⟨hb4, hf⟩ := grd hf
          refine alM_14 g hK hb4 dk_1_chooseAll_101 (pc' := 102) rfl ?_
          refine pfM_X_171 g hK dk_1_chooseAll_102 (pc' := 105) rfl ?_
          refine v_aload_n g dk_1_chooseAll_105 1 rfl rfl (pc' := 106) rfl ?_
          refine gfM_X_56 g hK dk_1_chooseAll_106 (pc' := 109) rfl ?_
          refine v_iload g dk_1_chooseAll_109 0 rfl (pc' := 111) rfl ?_
          refine alM_16 g hK hb4 dk_1_chooseAll_111 (pc' := 112) rfl ?_
          refine v_if_eq (tgt := 127) (pc' := 115) g dk_1_chooseAll_112 (by decide) rfl (fun hc => ?_) (fun hc => ?_)
          · replace hf := ifT hc hf
            refine v_iload g dk_1_chooseAll_127 5 rfl (pc' := 129) rfl ?_
            refine v_iconst (v := (-1)) g dk_1_chooseAll_129 (by decide) (pc' := 130) rfl ?_
            refine v_icmp_ne (tgt := 172) (pc' := 133) g dk_1_chooseAll_130 (by decide) rfl (fun hc => ?_) (fun hc => ?_)
            · replace hf := ifF hc hf
              refine v_aload_n g dk_1_chooseAll_172 1 rfl rfl (pc' := 173) rfl ?_
              refine gfM_X_168 g hK dk_1_chooseAll_173 (pc' := 176) rfl ?_
              refine v_aload_n g dk_1_chooseAll_176 1 rfl rfl (pc' := 177) rfl ?_
              refine gfM_X_83 g hK dk_1_chooseAll_177 (pc' := 180) rfl ?_
              refine v_icmp_ne (tgt := 202) (pc' := 183) g dk_1_chooseAll_180 (by decide) rfl (fun hc => ?_) (fun hc => ?_)
              · replace hf := ifF hc hf
                refine v_iconst (v := 1) g dk_1_chooseAll_202 (by decide) (pc' := 203) rfl ?_
                refine v_istore (lv' := [(5, .int 1), (7, .int (((8 : Int32) * x1) + x6)), (0, .ref (ad 0)), (1, .int x1), (2, .int x2), (3, .int x3), (4, .int x4), (6, .int x6)]) g dk_1_chooseAll_203 (by decide) rfl (pc' := 205) rfl ?_
                refine v_aload_n g dk_1_chooseAll_205 2 rfl rfl (pc' := 206) rfl ?_
                refine v_iconst (v := 2) g dk_1_chooseAll_206 (by decide) (pc' := 207) rfl ?_
                refine pfM_X_83 g hK dk_1_chooseAll_207 (pc' := 210) rfl ?_
                refine v_aload_n g dk_1_chooseAll_210 2 rfl rfl (pc' := 211) rfl ?_
                refine v_iload g dk_1_chooseAll_211 6 rfl (pc' := 213) rfl ?_
                refine pfM_X_183 g hK dk_1_chooseAll_213 (pc' := 216) rfl ?_
                refine v_aload_n g dk_1_chooseAll_216 2 rfl rfl (pc' := 217) rfl ?_
                refine v_iload g dk_1_chooseAll_217 7 rfl (pc' := 219) rfl ?_
                refine pfM_X_186 g hK dk_1_chooseAll_219 (pc' := 222) rfl ?_
                refine v_iinc (j := 7) (v := x6 + 1) (lv' := [(6, .int (x6 + 1)), (5, .int 1), (7, .int (((8 : Int32) * x1) + x6)), (0, .ref (ad 0)), (1, .int x1), (2, .int x2), (3, .int x3), (4, .int x4)]) g dk_1_chooseAll_222 rfl rfl (by decide) rfl (pc' := 225) rfl ?_
                refine v_goto (tgt := 54) g dk_1_chooseAll_225 (by decide) ?_
                refine v_sub [3, 4, 5, 6, 7, 1, 0] rfl ?_
                exact ih (sI (sI (sI (sI (sI S 11 1) 12 (gA S 13 (((8 : Int32) * x1) + x6).toNatClampNeg)) 7 2) 9 x4) 10 x6) x4 1 (x6 + 1) o hf hx
              · replace hf := ifT hc hf
                refine v_aload_n g dk_1_chooseAll_183 1 rfl rfl (pc' := 184) rfl ?_
                refine gfM_X_83 g hK dk_1_chooseAll_184 (pc' := 187) rfl ?_
                refine v_iconst (v := 1) g dk_1_chooseAll_187 (by decide) (pc' := 188) rfl ?_
                refine v_icmp_ne (tgt := 222) (pc' := 191) g dk_1_chooseAll_188 (by decide) rfl (fun hc => ?_) (fun hc => ?_)
                · replace hf := ifF hc hf
                  refine v_iinc (j := 7) (v := x6 + 1) (lv' := [(6, .int (x6 + 1)), (7, .int (((8 : Int32) * x1) + x6)), (0, .ref (ad 0)), (1, .int x1), (2, .int x2), (3, .int x3), (4, .int x4), (5, .int x5)]) g dk_1_chooseAll_222 rfl rfl (by decide) rfl (pc' := 225) rfl ?_
                  refine v_goto (tgt := 54) g dk_1_chooseAll_225 (by decide) ?_
                  refine v_sub [2, 3, 4, 5, 6, 7, 0] rfl ?_
                  exact ih (sI (sI S 11 1) 12 (gA S 13 (((8 : Int32) * x1) + x6).toNatClampNeg)) x4 x5 (x6 + 1) o hf hx
                · replace hf := ifT hc hf
                  refine v_aload_n g dk_1_chooseAll_191 1 rfl rfl (pc' := 192) rfl ?_
                  refine gfM_X_171 g hK dk_1_chooseAll_192 (pc' := 195) rfl ?_
                  refine v_aload_n g dk_1_chooseAll_195 1 rfl rfl (pc' := 196) rfl ?_
                  refine gfM_X_180 g hK dk_1_chooseAll_196 (pc' := 199) rfl ?_
                  refine v_icmp_eq (tgt := 222) (pc' := 202) g dk_1_chooseAll_199 (by decide) rfl (fun hc => ?_) (fun hc => ?_)
                  · replace hf := ifT hc hf
                    refine v_iinc (j := 7) (v := x6 + 1) (lv' := [(6, .int (x6 + 1)), (7, .int (((8 : Int32) * x1) + x6)), (0, .ref (ad 0)), (1, .int x1), (2, .int x2), (3, .int x3), (4, .int x4), (5, .int x5)]) g dk_1_chooseAll_222 rfl rfl (by decide) rfl (pc' := 225) rfl ?_
                    refine v_goto (tgt := 54) g dk_1_chooseAll_225 (by decide) ?_
                    refine v_sub [2, 3, 4, 5, 6, 7, 0] rfl ?_
                    exact ih (sI (sI S 11 1) 12 (gA S 13 (((8 : Int32) * x1) + x6).toNatClampNeg)) x4 x5 (x6 + 1) o hf hx
                  · replace hf := ifF hc hf
                    refine v_iconst (v := 1) g dk_1_chooseAll_202 (by decide) (pc' := 203) rfl ?_
                    refine v_istore (lv' := [(5, .int 1), (7, .int (((8 : Int32) * x1) + x6)), (0, .ref (ad 0)), (1, .int x1), (2, .int x2), (3, .int x3), (4, .int x4), (6, .int x6)]) g dk_1_chooseAll_203 (by decide) rfl (pc' := 205) rfl ?_
                    refine v_aload_n g dk_1_chooseAll_205 2 rfl rfl (pc' := 206) rfl ?_
                    refine v_iconst (v := 2) g dk_1_chooseAll_206 (by decide) (pc' := 207) rfl ?_
                    refine pfM_X_83 g hK dk_1_chooseAll_207 (pc' := 210) rfl ?_
                    refine v_aload_n g dk_1_chooseAll_210 2 rfl rfl (pc' := 211) rfl ?_
                    refine v_iload g dk_1_chooseAll_211 6 rfl (pc' := 213) rfl ?_
                    refine pfM_X_183 g hK dk_1_chooseAll_213 (pc' := 216) rfl ?_
                    refine v_aload_n g dk_1_chooseAll_216 2 rfl rfl (pc' := 217) rfl ?_
                    refine v_iload g dk_1_chooseAll_217 7 rfl (pc' := 219) rfl ?_
                    refine pfM_X_186 g hK dk_1_chooseAll_219 (pc' := 222) rfl ?_
                    refine v_iinc (j := 7) (v := x6 + 1) (lv' := [(6, .int (x6 + 1)), (5, .int 1), (7, .int (((8 : Int32) * x1) + x6)), (0, .ref (ad 0)), (1, .int x1), (2, .int x2), (3, .int x3), (4, .int x4)]) g dk_1_chooseAll_222 rfl rfl (by decide) rfl (pc' := 225) rfl ?_
                    refine v_goto (tgt := 54) g dk_1_chooseAll_225 (by decide) ?_
                    refine v_sub [3, 4, 5, 6, 7, 1, 0] rfl ?_
                    exact ih (sI (sI (sI (sI (sI S 11 1) 12 (gA S 13 (((8 : Int32) * x1) + x6).toNatClampNeg)) 7 2) 9 x4) 10 x6) x4 1 (x6 + 1) o hf hx
            · replace hf := ifT hc hf
              refine v_iload g dk_1_chooseAll_133 7 rfl (pc' := 135) rfl ?_
              refine v_istore (lv' := [(4, .int x6), (7, .int (((8 : Int32) * x1) + x6)), (0, .ref (ad 0)), (1, .int x1), (2, .int x2), (3, .int x3), (5, .int x5), (6, .int x6)]) g dk_1_chooseAll_135 (by decide) rfl (pc' := 137) rfl ?_
              refine v_aload_n g dk_1_chooseAll_137 2 rfl rfl (pc' := 138) rfl ?_
              refine v_aload_n g dk_1_chooseAll_138 2 rfl rfl (pc' := 139) rfl ?_
              refine gfM_X_168 g hK dk_1_chooseAll_139 (pc' := 142) rfl ?_
              refine pfM_X_83 g hK dk_1_chooseAll_142 (pc' := 145) rfl ?_
              refine v_aload_n g dk_1_chooseAll_145 2 rfl rfl (pc' := 146) rfl ?_
              refine v_aload_n g dk_1_chooseAll_146 2 rfl rfl (pc' := 147) rfl ?_
              refine gfM_X_171 g hK dk_1_chooseAll_147 (pc' := 150) rfl ?_
              refine pfM_X_180 g hK dk_1_chooseAll_150 (pc' := 153) rfl ?_
              refine v_aload_n g dk_1_chooseAll_153 2 rfl rfl (pc' := 154) rfl ?_
              refine v_aload_n g dk_1_chooseAll_154 2 rfl rfl (pc' := 155) rfl ?_
              refine gfM_X_174 g hK dk_1_chooseAll_155 (pc' := 158) rfl ?_
              refine pfM_X_183 g hK dk_1_chooseAll_158 (pc' := 161) rfl ?_
              refine v_aload_n g dk_1_chooseAll_161 2 rfl rfl (pc' := 162) rfl ?_
              refine v_aload_n g dk_1_chooseAll_162 2 rfl rfl (pc' := 163) rfl ?_
              refine gfM_X_177 g hK dk_1_chooseAll_163 (pc' := 166) rfl ?_
              refine pfM_X_186 g hK dk_1_chooseAll_166 (pc' := 169) rfl ?_
              refine v_goto (tgt := 222) g dk_1_chooseAll_169 (by decide) ?_
              refine v_iinc (j := 7) (v := x6 + 1) (lv' := [(6, .int (x6 + 1)), (4, .int x6), (7, .int (((8 : Int32) * x1) + x6)), (0, .ref (ad 0)), (1, .int x1), (2, .int x2), (3, .int x3), (5, .int x5)]) g dk_1_chooseAll_222 rfl rfl (by decide) rfl (pc' := 225) rfl ?_
              refine v_goto (tgt := 54) g dk_1_chooseAll_225 (by decide) ?_
              refine v_sub [3, 4, 5, 6, 1, 7, 0] rfl ?_
              exact ih (sI (sI (sI (sI (sI (sI S 11 1) 12 (gA S 13 (((8 : Int32) * x1) + x6).toNatClampNeg)) 7 1) 8 (gA S 13 (((8 : Int32) * x1) + x6).toNatClampNeg)) 9 (gI S 13)) 10 (gI S 14)) x6 x5 (x6 + 1) o hf hx
          · replace hf := ifF hc hf
            refine v_aload_n g dk_1_chooseAll_115 1 rfl rfl (pc' := 116) rfl ?_
            refine v_aload_n g dk_1_chooseAll_116 1 rfl rfl (pc' := 117) rfl ?_
            refine gfM_X_50 g hK dk_1_chooseAll_117 (pc' := 120) rfl ?_
            refine v_iload g dk_1_chooseAll_120 0 rfl (pc' := 122) rfl ?_
            refine alM_14 g hK hb4 dk_1_chooseAll_122 (pc' := 123) rfl ?_
            refine v_iload_n g dk_1_chooseAll_123 3 rfl rfl (pc' := 124) rfl ?_
            obtain ⟨q5, hq, hf⟩ := bnd hf
            refine v_callV_v (As := [.int (gA S 13 (((8 : Int32) * x1) + x6).toNatClampNeg), .int x2]) (rest := []) (S1 := q5) g hK hA (c_MX_chooseInner hq) (kcM_X_189 g.2.2.2.2 rfl rfl (Nat.le_of_ble_eq_true rfl) (Nat.le_of_ble_eq_true rfl)) (ci := 1) (q0 := 0) rfl rfl rfl rfl rfl (Nat.le_of_ble_eq_true rfl) dk_1_chooseAll_124 (Nat.zero_le _) (Nat.zero_le _) (pc' := 127) rfl ?_
            refine v_iload g dk_1_chooseAll_127 5 rfl (pc' := 129) rfl ?_
            refine v_iconst (v := (-1)) g dk_1_chooseAll_129 (by decide) (pc' := 130) rfl ?_
            refine v_icmp_ne (tgt := 172) (pc' := 133) g dk_1_chooseAll_130 (by decide) rfl (fun hc => ?_) (fun hc => ?_)
            · replace hf := ifF hc hf
              refine v_aload_n g dk_1_chooseAll_172 1 rfl rfl (pc' := 173) rfl ?_
              refine gfM_X_168 g hK dk_1_chooseAll_173 (pc' := 176) rfl ?_
              refine v_aload_n g dk_1_chooseAll_176 1 rfl rfl (pc' := 177) rfl ?_
              refine gfM_X_83 g hK dk_1_chooseAll_177 (pc' := 180) rfl ?_
              refine v_icmp_ne (tgt := 202) (pc' := 183) g dk_1_chooseAll_180 (by decide) rfl (fun hc => ?_) (fun hc => ?_)
              · replace hf := ifF hc hf
                refine v_iconst (v := 1) g dk_1_chooseAll_202 (by decide) (pc' := 203) rfl ?_
                refine v_istore (lv' := [(5, .int 1), (7, .int (((8 : Int32) * x1) + x6)), (0, .ref (ad 0)), (1, .int x1), (2, .int x2), (3, .int x3), (4, .int x4), (6, .int x6)]) g dk_1_chooseAll_203 (by decide) rfl (pc' := 205) rfl ?_
                refine v_aload_n g dk_1_chooseAll_205 2 rfl rfl (pc' := 206) rfl ?_
                refine v_iconst (v := 2) g dk_1_chooseAll_206 (by decide) (pc' := 207) rfl ?_
                refine pfM_X_83 g hK dk_1_chooseAll_207 (pc' := 210) rfl ?_
                refine v_aload_n g dk_1_chooseAll_210 2 rfl rfl (pc' := 211) rfl ?_
                refine v_iload g dk_1_chooseAll_211 6 rfl (pc' := 213) rfl ?_
                refine pfM_X_183 g hK dk_1_chooseAll_213 (pc' := 216) rfl ?_
                refine v_aload_n g dk_1_chooseAll_216 2 rfl rfl (pc' := 217) rfl ?_
                refine v_iload g dk_1_chooseAll_217 7 rfl (pc' := 219) rfl ?_
                refine pfM_X_186 g hK dk_1_chooseAll_219 (pc' := 222) rfl ?_
                refine v_iinc (j := 7) (v := x6 + 1) (lv' := [(6, .int (x6 + 1)), (5, .int 1), (7, .int (((8 : Int32) * x1) + x6)), (0, .ref (ad 0)), (1, .int x1), (2, .int x2), (3, .int x3), (4, .int x4)]) g dk_1_chooseAll_222 rfl rfl (by decide) rfl (pc' := 225) rfl ?_
                refine v_goto (tgt := 54) g dk_1_chooseAll_225 (by decide) ?_
                refine v_sub [3, 4, 5, 6, 7, 1, 0] rfl ?_
                exact ih (sI (sI (sI q5 7 2) 9 x4) 10 x6) x4 1 (x6 + 1) o hf hx
              · replace hf := ifT hc hf
                refine v_aload_n g dk_1_chooseAll_183 1 rfl rfl (pc' := 184) rfl ?_
                refine gfM_X_83 g hK dk_1_chooseAll_184 (pc' := 187) rfl ?_
                refine v_iconst (v := 1) g dk_1_chooseAll_187 (by decide) (pc' := 188) rfl ?_
                refine v_icmp_ne (tgt := 222) (pc' := 191) g dk_1_chooseAll_188 (by decide) rfl (fun hc => ?_) (fun hc => ?_)
                · replace hf := ifF hc hf
                  refine v_iinc (j := 7) (v := x6 + 1) (lv' := [(6, .int (x6 + 1)), (7, .int (((8 : Int32) * x1) + x6)), (0, .ref (ad 0)), (1, .int x1), (2, .int x2), (3, .int x3), (4, .int x4), (5, .int x5)]) g dk_1_chooseAll_222 rfl rfl (by decide) rfl (pc' := 225) rfl ?_
                  refine v_goto (tgt := 54) g dk_1_chooseAll_225 (by decide) ?_
                  refine v_sub [2, 3, 4, 5, 6, 7, 0] rfl ?_
                  exact ih q5 x4 x5 (x6 + 1) o hf hx
                · replace hf := ifT hc hf
                  refine v_aload_n g dk_1_chooseAll_191 1 rfl rfl (pc' := 192) rfl ?_
                  refine gfM_X_171 g hK dk_1_chooseAll_192 (pc' := 195) rfl ?_
                  refine v_aload_n g dk_1_chooseAll_195 1 rfl rfl (pc' := 196) rfl ?_
                  refine gfM_X_180 g hK dk_1_chooseAll_196 (pc' := 199) rfl ?_
                  refine v_icmp_eq (tgt := 222) (pc' := 202) g dk_1_chooseAll_199 (by decide) rfl (fun hc => ?_) (fun hc => ?_)
                  · replace hf := ifT hc hf
                    refine v_iinc (j := 7) (v := x6 + 1) (lv' := [(6, .int (x6 + 1)), (7, .int (((8 : Int32) * x1) + x6)), (0, .ref (ad 0)), (1, .int x1), (2, .int x2), (3, .int x3), (4, .int x4), (5, .int x5)]) g dk_1_chooseAll_222 rfl rfl (by decide) rfl (pc' := 225) rfl ?_
                    refine v_goto (tgt := 54) g dk_1_chooseAll_225 (by decide) ?_
                    refine v_sub [2, 3, 4, 5, 6, 7, 0] rfl ?_
                    exact ih q5 x4 x5 (x6 + 1) o hf hx
                  · replace hf := ifF hc hf
                    refine v_iconst (v := 1) g dk_1_chooseAll_202 (by decide) (pc' := 203) rfl ?_
                    refine v_istore (lv' := [(5, .int 1), (7, .int (((8 : Int32) * x1) + x6)), (0, .ref (ad 0)), (1, .int x1), (2, .int x2), (3, .int x3), (4, .int x4), (6, .int x6)]) g dk_1_chooseAll_203 (by decide) rfl (pc' := 205) rfl ?_
                    refine v_aload_n g dk_1_chooseAll_205 2 rfl rfl (pc' := 206) rfl ?_
                    refine v_iconst (v := 2) g dk_1_chooseAll_206 (by decide) (pc' := 207) rfl ?_
                    refine pfM_X_83 g hK dk_1_chooseAll_207 (pc' := 210) rfl ?_
                    refine v_aload_n g dk_1_chooseAll_210 2 rfl rfl (pc' := 211) rfl ?_
                    refine v_iload g dk_1_chooseAll_211 6 rfl (pc' := 213) rfl ?_
                    refine pfM_X_183 g hK dk_1_chooseAll_213 (pc' := 216) rfl ?_
                    refine v_aload_n g dk_1_chooseAll_216 2 rfl rfl (pc' := 217) rfl ?_
                    refine v_iload g dk_1_chooseAll_217 7 rfl (pc' := 219) rfl ?_
                    refine pfM_X_186 g hK dk_1_chooseAll_219 (pc' := 222) rfl ?_
                    refine v_iinc (j := 7) (v := x6 + 1) (lv' := [(6, .int (x6 + 1)), (5, .int 1), (7, .int (((8 : Int32) * x1) + x6)), (0, .ref (ad 0)), (1, .int x1), (2, .int x2), (3, .int x3), (4, .int x4)]) g dk_1_chooseAll_222 rfl rfl (by decide) rfl (pc' := 225) rfl ?_
                    refine v_goto (tgt := 54) g dk_1_chooseAll_225 (by decide) ?_
                    refine v_sub [3, 4, 5, 6, 7, 1, 0] rfl ?_
                    exact ih (sI (sI (sI q5 7 2) 9 x4) 10 x6) x4 1 (x6 + 1) o hf hx
            · replace hf := ifT hc hf
              refine v_iload g dk_1_chooseAll_133 7 rfl (pc' := 135) rfl ?_
              refine v_istore (lv' := [(4, .int x6), (7, .int (((8 : Int32) * x1) + x6)), (0, .ref (ad 0)), (1, .int x1), (2, .int x2), (3, .int x3), (5, .int x5), (6, .int x6)]) g dk_1_chooseAll_135 (by decide) rfl (pc' := 137) rfl ?_
              refine v_aload_n g dk_1_chooseAll_137 2 rfl rfl (pc' := 138) rfl ?_
              refine v_aload_n g dk_1_chooseAll_138 2 rfl rfl (pc' := 139) rfl ?_
              refine gfM_X_168 g hK dk_1_chooseAll_139 (pc' := 142) rfl ?_
              refine pfM_X_83 g hK dk_1_chooseAll_142 (pc' := 145) rfl ?_
              refine v_aload_n g dk_1_chooseAll_145 2 rfl rfl (pc' := 146) rfl ?_
              refine v_aload_n g dk_1_chooseAll_146 2 rfl rfl (pc' := 147) rfl ?_
              refine gfM_X_171 g hK dk_1_chooseAll_147 (pc' := 150) rfl ?_
              refine pfM_X_180 g hK dk_1_chooseAll_150 (pc' := 153) rfl ?_
              refine v_aload_n g dk_1_chooseAll_153 2 rfl rfl (pc' := 154) rfl ?_
              refine v_aload_n g dk_1_chooseAll_154 2 rfl rfl (pc' := 155) rfl ?_
              refine gfM_X_174 g hK dk_1_chooseAll_155 (pc' := 158) rfl ?_
              refine pfM_X_183 g hK dk_1_chooseAll_158 (pc' := 161) rfl ?_
              refine v_aload_n g dk_1_chooseAll_161 2 rfl rfl (pc' := 162) rfl ?_
              refine v_aload_n g dk_1_chooseAll_162 2 rfl rfl (pc' := 163) rfl ?_
              refine gfM_X_177 g hK dk_1_chooseAll_163 (pc' := 166) rfl ?_
              refine pfM_X_186 g hK dk_1_chooseAll_166 (pc' := 169) rfl ?_
              refine v_goto (tgt := 222) g dk_1_chooseAll_169 (by decide) ?_
              refine v_iinc (j := 7) (v := x6 + 1) (lv' := [(6, .int (x6 + 1)), (4, .int x6), (7, .int (((8 : Int32) * x1) + x6)), (0, .ref (ad 0)), (1, .int x1), (2, .int x2), (3, .int x3), (5, .int x5)]) g dk_1_chooseAll_222 rfl rfl (by decide) rfl (pc' := 225) rfl ?_
              refine v_goto (tgt := 54) g dk_1_chooseAll_225 (by decide) ?_
              refine v_sub [3, 4, 5, 6, 1, 7, 0] rfl ?_
              exact ih (sI (sI (sI (sI q5 7 (gI q5 11)) 8 (gI q5 12)) 9 (gI q5 13)) 10 (gI q5 14)) x6 x5 (x6 + 1) o hf hx
def m_MX_chooseAll (S : StM) (x1 : Int32) (x2 : Int32) : Option StM :=
  (m_MX_mostSpecial S x1 x2).bind fun q1 =>
    if inb x1 24 = true then if (gA S 16 x1.toNatClampNeg) = 0 then (L_MX_chooseAll_54 x1 x2 q1 100 (sI (sI (sI (sI S 7 0) 8 (gA S 14 x1.toNatClampNeg)) 9 (-1)) 10 (-1)) (-1) 0 0).bind fun y7 =>
    some y7
    else (L_MX_chooseAll_54 x1 x2 q1 100 (sI (sI (sI (sI S 7 1) 8 (gA S 14 x1.toNatClampNeg)) 9 (-1)) 10 (-1)) (-1) 0 0).bind fun y9 =>
    some y9 else none
set_option maxHeartbeats 4000000 in
set_option maxRecDepth 100000 in
theorem c_MX_chooseAll {l : Launch} {D : va_G} {ad : Nat → Nat} {ca : Nat → ClassId} {S : StM} {x1 : Int32} {x2 : Int32} {r : StM} (hf : m_MX_chooseAll S x1 x2 = some r) : KVM l D ad ca yk_1_chooseAll (.code yk_1_chooseAll bk_1_chooseAll 8 none :: tb) rm_MX_chooseAll [.ref (ad 0), .int x1, .int x2] S r := by
  refine met_v (by decide) (Nat.le_of_ble_eq_true rfl) (fun p e s m below meth c A g hr hlk hK hA => ?_)
  replace g : CallFix p m c bk_1_chooseAll 8 s _ tb Rk_1 := g
  refine v_lv (lv' := [(0, .ref (ad 0)), (1, .int x1), (2, .int x2)]) rfl ?_
  unfold m_MX_chooseAll at hf
  refine v_aload_n g dk_1_chooseAll_0 0 rfl rfl (pc' := 1) rfl ?_
  refine v_iload_n g dk_1_chooseAll_1 1 rfl rfl (pc' := 2) rfl ?_
  refine v_iload_n g dk_1_chooseAll_2 2 rfl rfl (pc' := 3) rfl ?_
  obtain ⟨q1, hq, hf⟩ := bnd hf
  refine v_callV_i (As := [.int x1, .int x2]) (rest := []) (r := q1) (S1 := S) g hK hA (c_MX_mostSpecial hq) (kcM_X_164 g.2.2.2.2 rfl rfl (Nat.le_of_ble_eq_true rfl) (Nat.le_of_ble_eq_true rfl)) (ci := 1) (q0 := 0) rfl rfl rfl rfl rfl (Nat.le_of_ble_eq_true rfl) dk_1_chooseAll_3 (Nat.zero_le _) (Nat.zero_le _) (pc' := 6) rfl ?_
  refine v_istore_n (lv' := [(3, .int q1), (0, .ref (ad 0)), (1, .int x1), (2, .int x2)]) g dk_1_chooseAll_6 rfl (by decide) rfl (pc' := 7) rfl ?_
  refine v_aload_n g dk_1_chooseAll_7 1 rfl rfl (pc' := 8) rfl ?_
  refine v_aload_n g dk_1_chooseAll_8 1 rfl rfl (pc' := 9) rfl ?_
  refine gfM_X_59 g hK dk_1_chooseAll_9 (pc' := 12) rfl ?_
  refine v_iload_n g dk_1_chooseAll_12 2 rfl rfl (pc' := 13) rfl ?_
  obtain ⟨hb2, hf⟩ := grd hf
  refine alM_17 g hK hb2 dk_1_chooseAll_13 (pc' := 14) rfl ?_
  refine v_if_eq (tgt := 21) (pc' := 17) g dk_1_chooseAll_14 (by decide) rfl (fun hc => ?_) (fun hc => ?_)
  · replace hf := ifT hc hf
    refine v_iconst (v := 0) g dk_1_chooseAll_21 (by decide) (pc' := 22) rfl ?_
    refine pfM_X_83 g hK dk_1_chooseAll_22 (pc' := 25) rfl ?_
    refine v_aload_n g dk_1_chooseAll_25 1 rfl rfl (pc' := 26) rfl ?_
    refine v_aload_n g dk_1_chooseAll_26 1 rfl rfl (pc' := 27) rfl ?_
    refine gfM_X_53 g hK dk_1_chooseAll_27 (pc' := 30) rfl ?_
    refine v_iload_n g dk_1_chooseAll_30 2 rfl rfl (pc' := 31) rfl ?_
    refine alM_15 g hK hb2 dk_1_chooseAll_31 (pc' := 32) rfl ?_
    refine pfM_X_180 g hK dk_1_chooseAll_32 (pc' := 35) rfl ?_
    refine v_aload_n g dk_1_chooseAll_35 1 rfl rfl (pc' := 36) rfl ?_
    refine v_iconst (v := (-1)) g dk_1_chooseAll_36 (by decide) (pc' := 37) rfl ?_
    refine pfM_X_183 g hK dk_1_chooseAll_37 (pc' := 40) rfl ?_
    refine v_aload_n g dk_1_chooseAll_40 1 rfl rfl (pc' := 41) rfl ?_
    refine v_iconst (v := (-1)) g dk_1_chooseAll_41 (by decide) (pc' := 42) rfl ?_
    refine pfM_X_186 g hK dk_1_chooseAll_42 (pc' := 45) rfl ?_
    refine v_iconst (v := (-1)) g dk_1_chooseAll_45 (by decide) (pc' := 46) rfl ?_
    refine v_istore (lv' := [(4, .int (-1)), (3, .int q1), (0, .ref (ad 0)), (1, .int x1), (2, .int x2)]) g dk_1_chooseAll_46 (by decide) rfl (pc' := 48) rfl ?_
    refine v_iconst (v := 0) g dk_1_chooseAll_48 (by decide) (pc' := 49) rfl ?_
    refine v_istore (lv' := [(5, .int 0), (4, .int (-1)), (3, .int q1), (0, .ref (ad 0)), (1, .int x1), (2, .int x2)]) g dk_1_chooseAll_49 (by decide) rfl (pc' := 51) rfl ?_
    refine v_iconst (v := 0) g dk_1_chooseAll_51 (by decide) (pc' := 52) rfl ?_
    refine v_istore (lv' := [(6, .int 0), (5, .int 0), (4, .int (-1)), (3, .int q1), (0, .ref (ad 0)), (1, .int x1), (2, .int x2)]) g dk_1_chooseAll_52 (by decide) rfl (pc' := 54) rfl ?_
    refine v_sub [4, 5, 6, 3, 2, 1, 0] rfl ?_
    obtain ⟨y7, hL, hf⟩ := bnd hf
    refine w_MX_chooseAll_54 g hr hlk hK hA 100 (sI (sI (sI (sI S 7 0) 8 (gA S 14 x1.toNatClampNeg)) 9 (-1)) 10 (-1)) (-1) 0 0 _ hL ?_
    exact v_vret g hr hlk hK  (Option.some.inj hf) dk_1_chooseAll_228
  · replace hf := ifF hc hf
    refine v_iconst (v := 1) g dk_1_chooseAll_17 (by decide) (pc' := 18) rfl ?_
    refine v_goto (tgt := 22) g dk_1_chooseAll_18 (by decide) ?_
    refine pfM_X_83 g hK dk_1_chooseAll_22 (pc' := 25) rfl ?_
    refine v_aload_n g dk_1_chooseAll_25 1 rfl rfl (pc' := 26) rfl ?_
    refine v_aload_n g dk_1_chooseAll_26 1 rfl rfl (pc' := 27) rfl ?_
    refine gfM_X_53 g hK dk_1_chooseAll_27 (pc' := 30) rfl ?_
    refine v_iload_n g dk_1_chooseAll_30 2 rfl rfl (pc' := 31) rfl ?_
    refine alM_15 g hK hb2 dk_1_chooseAll_31 (pc' := 32) rfl ?_
    refine pfM_X_180 g hK dk_1_chooseAll_32 (pc' := 35) rfl ?_
    refine v_aload_n g dk_1_chooseAll_35 1 rfl rfl (pc' := 36) rfl ?_
    refine v_iconst (v := (-1)) g dk_1_chooseAll_36 (by decide) (pc' := 37) rfl ?_
    refine pfM_X_183 g hK dk_1_chooseAll_37 (pc' := 40) rfl ?_
    refine v_aload_n g dk_1_chooseAll_40 1 rfl rfl (pc' := 41) rfl ?_
    refine v_iconst (v := (-1)) g dk_1_chooseAll_41 (by decide) (pc' := 42) rfl ?_
    refine pfM_X_186 g hK dk_1_chooseAll_42 (pc' := 45) rfl ?_
    refine v_iconst (v := (-1)) g dk_1_chooseAll_45 (by decide) (pc' := 46) rfl ?_
    refine v_istore (lv' := [(4, .int (-1)), (3, .int q1), (0, .ref (ad 0)), (1, .int x1), (2, .int x2)]) g dk_1_chooseAll_46 (by decide) rfl (pc' := 48) rfl ?_
    refine v_iconst (v := 0) g dk_1_chooseAll_48 (by decide) (pc' := 49) rfl ?_
    refine v_istore (lv' := [(5, .int 0), (4, .int (-1)), (3, .int q1), (0, .ref (ad 0)), (1, .int x1), (2, .int x2)]) g dk_1_chooseAll_49 (by decide) rfl (pc' := 51) rfl ?_
    refine v_iconst (v := 0) g dk_1_chooseAll_51 (by decide) (pc' := 52) rfl ?_
    refine v_istore (lv' := [(6, .int 0), (5, .int 0), (4, .int (-1)), (3, .int q1), (0, .ref (ad 0)), (1, .int x1), (2, .int x2)]) g dk_1_chooseAll_52 (by decide) rfl (pc' := 54) rfl ?_
    refine v_sub [4, 5, 6, 3, 2, 1, 0] rfl ?_
    obtain ⟨y9, hL, hf⟩ := bnd hf
    refine w_MX_chooseAll_54 g hr hlk hK hA 100 (sI (sI (sI (sI S 7 1) 8 (gA S 14 x1.toNatClampNeg)) 9 (-1)) 10 (-1)) (-1) 0 0 _ hL ?_
    exact v_vret g hr hlk hK  (Option.some.inj hf) dk_1_chooseAll_228
abbrev rm_MX_choose : Room := { frames := 8, cells := 0, slots := 0, locals := 195 }
def m_MX_choose (S : StM) (x1 : Int32) (x2 : Int32) : Option (Int32 × StM) :=
  (m_MX_in S x1 (gI S 4)).bind fun q1 =>
    if q1 = 0 then some ((-1), S)
    else (m_MX_in S x2 (gI S 2)).bind fun q2 =>
    if q2 = 0 then some ((-1), S)
    else (m_MX_chooseAll S x1 x2).bind fun q3 =>
    some (gI q3 7, q3)
set_option maxHeartbeats 4000000 in
set_option maxRecDepth 100000 in
theorem c_MX_choose {l : Launch} {D : va_G} {ad : Nat → Nat} {ca : Nat → ClassId} {S : StM} {x1 : Int32} {x2 : Int32} {r : Int32 × StM} (hf : m_MX_choose S x1 x2 = some r) : KIM l D ad ca yk_1_choose (.code yk_1_choose bk_1_choose 3 (some .int) :: tb) rm_MX_choose [.ref (ad 0), .int x1, .int x2] S r := by
  refine met_i (by decide) (Nat.le_of_ble_eq_true rfl) (fun p e s m below meth c A g hr hlk hK hA => ?_)
  replace g : CallFix p m c bk_1_choose 3 s _ tb Rk_1 := g
  refine v_lv (lv' := [(0, .ref (ad 0)), (1, .int x1), (2, .int x2)]) rfl ?_
  unfold m_MX_choose at hf
  refine v_iload_n g dk_1_choose_0 1 rfl rfl (pc' := 1) rfl ?_
  refine v_aload_n g dk_1_choose_1 0 rfl rfl (pc' := 2) rfl ?_
  refine gfM_X_119 g hK dk_1_choose_2 (pc' := 5) rfl ?_
  obtain ⟨q1, hq, hf⟩ := bnd hf
  refine v_callS_i (As := [.int x1, .int (gI S 4)]) (rest := []) (r := q1) (S1 := S) g hK hA (c_MX_in hq) (kcM_X_102 g.2.2.2.2 rfl rfl (Nat.le_of_ble_eq_true rfl) (Nat.le_of_ble_eq_true rfl)) rfl rfl (Nat.le_of_ble_eq_true rfl) dk_1_choose_5 (Nat.zero_le _) (Nat.zero_le _) (pc' := 8) rfl ?_
  refine v_if_eq (tgt := 22) (pc' := 11) g dk_1_choose_8 (by decide) rfl (fun hc => ?_) (fun hc => ?_)
  · replace hf := ifT hc hf
    refine v_iconst (v := (-1)) g dk_1_choose_22 (by decide) (pc' := 23) rfl ?_
    exact v_iret g hr hlk hK  (Option.some.inj hf) dk_1_choose_23
  · replace hf := ifF hc hf
    refine v_iload_n g dk_1_choose_11 2 rfl rfl (pc' := 12) rfl ?_
    refine v_aload_n g dk_1_choose_12 0 rfl rfl (pc' := 13) rfl ?_
    refine gfM_X_113 g hK dk_1_choose_13 (pc' := 16) rfl ?_
    obtain ⟨q2, hq, hf⟩ := bnd hf
    refine v_callS_i (As := [.int x2, .int (gI S 2)]) (rest := []) (r := q2) (S1 := S) g hK hA (c_MX_in hq) (kcM_X_102 g.2.2.2.2 rfl rfl (Nat.le_of_ble_eq_true rfl) (Nat.le_of_ble_eq_true rfl)) rfl rfl (Nat.le_of_ble_eq_true rfl) dk_1_choose_16 (Nat.zero_le _) (Nat.zero_le _) (pc' := 19) rfl ?_
    refine v_if_ne (tgt := 24) (pc' := 22) g dk_1_choose_19 (by decide) rfl (fun hc => ?_) (fun hc => ?_)
    · replace hf := ifF hc hf
      refine v_aload_n g dk_1_choose_24 0 rfl rfl (pc' := 25) rfl ?_
      refine v_iload_n g dk_1_choose_25 1 rfl rfl (pc' := 26) rfl ?_
      refine v_iload_n g dk_1_choose_26 2 rfl rfl (pc' := 27) rfl ?_
      obtain ⟨q3, hq, hf⟩ := bnd hf
      refine v_callV_v (As := [.int x1, .int x2]) (rest := []) (S1 := q3) g hK hA (c_MX_chooseAll hq) (kcM_X_192 g.2.2.2.2 rfl rfl (Nat.le_of_ble_eq_true rfl) (Nat.le_of_ble_eq_true rfl)) (ci := 1) (q0 := 0) rfl rfl rfl rfl rfl (Nat.le_of_ble_eq_true rfl) dk_1_choose_27 (Nat.zero_le _) (Nat.zero_le _) (pc' := 30) rfl ?_
      refine v_aload_n g dk_1_choose_30 0 rfl rfl (pc' := 31) rfl ?_
      refine gfM_X_83 g hK dk_1_choose_31 (pc' := 34) rfl ?_
      exact v_iret g hr hlk hK  (Option.some.inj hf) dk_1_choose_34
    · replace hf := ifT hc hf
      refine v_iconst (v := (-1)) g dk_1_choose_22 (by decide) (pc' := 23) rfl ?_
      exact v_iret g hr hlk hK  (Option.some.inj hf) dk_1_choose_23
abbrev rm_MX_chosen : Room := { frames := 1, cells := 0, slots := 0, locals := 21 }
def m_MX_chosen (S : StM) (x1 : Int32) : Option Int32 :=
  if (gI S 7) = 1 then if x1 = 0 then some (gI S 8)
    else some (-1)
    else if (gI S 7) = 2 then (m_MX_in S x1 2).bind fun q1 =>
    if q1 = 0 then some (-1)
    else if x1 = 0 then some (gI S 9)
    else some (gI S 10)
    else some (-1)
set_option maxHeartbeats 4000000 in
set_option maxRecDepth 100000 in
theorem c_MX_chosen {l : Launch} {D : va_G} {ad : Nat → Nat} {ca : Nat → ClassId} {S : StM} {x1 : Int32} {r : Int32} (hf : m_MX_chosen S x1 = some r) : KIM l D ad ca yk_1_chosen (.code yk_1_chosen bk_1_chosen 2 (some .int) :: tb) rm_MX_chosen [.ref (ad 0), .int x1] S (r, S) := by
  refine met_i (by decide) (Nat.le_of_ble_eq_true rfl) (fun p e s m below meth c A g hr hlk hK hA => ?_)
  replace g : CallFix p m c bk_1_chosen 2 s _ tb Rk_1 := g
  refine v_lv (lv' := [(0, .ref (ad 0)), (1, .int x1)]) rfl ?_
  unfold m_MX_chosen at hf
  refine v_aload_n g dk_1_chosen_0 0 rfl rfl (pc' := 1) rfl ?_
  refine gfM_X_83 g hK dk_1_chosen_1 (pc' := 4) rfl ?_
  refine v_iconst (v := 1) g dk_1_chosen_4 (by decide) (pc' := 5) rfl ?_
  refine v_icmp_ne (tgt := 21) (pc' := 8) g dk_1_chosen_5 (by decide) rfl (fun hc => ?_) (fun hc => ?_)
  · replace hf := ifF hc hf
    refine v_aload_n g dk_1_chosen_21 0 rfl rfl (pc' := 22) rfl ?_
    refine gfM_X_83 g hK dk_1_chosen_22 (pc' := 25) rfl ?_
    refine v_iconst (v := 2) g dk_1_chosen_25 (by decide) (pc' := 26) rfl ?_
    refine v_icmp_ne (tgt := 37) (pc' := 29) g dk_1_chosen_26 (by decide) rfl (fun hc => ?_) (fun hc => ?_)
    · replace hf := ifF hc hf
      refine v_iconst (v := (-1)) g dk_1_chosen_37 (by decide) (pc' := 38) rfl ?_
      refine v_goto (tgt := 56) g dk_1_chosen_38 (by decide) ?_
      exact v_iret g hr hlk hK  (pinj hf) dk_1_chosen_56
    · replace hf := ifT hc hf
      refine v_iload_n g dk_1_chosen_29 1 rfl rfl (pc' := 30) rfl ?_
      refine v_iconst (v := 2) g dk_1_chosen_30 (by decide) (pc' := 31) rfl ?_
      obtain ⟨q1, hq, hf⟩ := bnd hf
      refine v_callS_i (As := [.int x1, .int 2]) (rest := []) (r := q1) (S1 := S) g hK hA (c_MX_in hq) (kcM_X_102 g.2.2.2.2 rfl rfl (Nat.le_of_ble_eq_true rfl) (Nat.le_of_ble_eq_true rfl)) rfl rfl (Nat.le_of_ble_eq_true rfl) dk_1_chosen_31 (Nat.zero_le _) (Nat.zero_le _) (pc' := 34) rfl ?_
      refine v_if_ne (tgt := 41) (pc' := 37) g dk_1_chosen_34 (by decide) rfl (fun hc => ?_) (fun hc => ?_)
      · replace hf := ifF hc hf
        refine v_iload_n g dk_1_chosen_41 1 rfl rfl (pc' := 42) rfl ?_
        refine v_if_ne (tgt := 52) (pc' := 45) g dk_1_chosen_42 (by decide) rfl (fun hc => ?_) (fun hc => ?_)
        · replace hf := ifF hc hf
          refine v_aload_n g dk_1_chosen_52 0 rfl rfl (pc' := 53) rfl ?_
          refine gfM_X_186 g hK dk_1_chosen_53 (pc' := 56) rfl ?_
          exact v_iret g hr hlk hK  (pinj hf) dk_1_chosen_56
        · replace hf := ifT hc hf
          refine v_aload_n g dk_1_chosen_45 0 rfl rfl (pc' := 46) rfl ?_
          refine gfM_X_183 g hK dk_1_chosen_46 (pc' := 49) rfl ?_
          refine v_goto (tgt := 56) g dk_1_chosen_49 (by decide) ?_
          exact v_iret g hr hlk hK  (pinj hf) dk_1_chosen_56
      · replace hf := ifT hc hf
        refine v_iconst (v := (-1)) g dk_1_chosen_37 (by decide) (pc' := 38) rfl ?_
        refine v_goto (tgt := 56) g dk_1_chosen_38 (by decide) ?_
        exact v_iret g hr hlk hK  (pinj hf) dk_1_chosen_56
  · replace hf := ifT hc hf
    refine v_iload_n g dk_1_chosen_8 1 rfl rfl (pc' := 9) rfl ?_
    refine v_if_ne (tgt := 19) (pc' := 12) g dk_1_chosen_9 (by decide) rfl (fun hc => ?_) (fun hc => ?_)
    · replace hf := ifF hc hf
      refine v_iconst (v := (-1)) g dk_1_chosen_19 (by decide) (pc' := 20) rfl ?_
      exact v_iret g hr hlk hK  (pinj hf) dk_1_chosen_20
    · replace hf := ifT hc hf
      refine v_aload_n g dk_1_chosen_12 0 rfl rfl (pc' := 13) rfl ?_
      refine gfM_X_180 g hK dk_1_chosen_13 (pc' := 16) rfl ?_
      refine v_goto (tgt := 20) g dk_1_chosen_16 (by decide) ?_
      exact v_iret g hr hlk hK  (pinj hf) dk_1_chosen_20
abbrev rm_MX_need : Room := { frames := 1, cells := 0, slots := 0, locals := 21 }
def m_MX_need (S : StM) (x1 : Int32) (x2 : Int32) : Option (Int32 × StM) :=
  (m_MX_in S x1 (gI S 5)).bind fun q1 =>
    if q1 = 0 then some ((-1), S)
    else (m_MX_in S x2 (gI S 5)).bind fun q2 =>
    if q2 = 0 then some ((-1), S)
    else if (gI S 6) = 40 then some ((-1), S)
    else if inb (gI S 6) 40 = true then some (((gI S 6) + (1 : Int32)) - (1 : Int32), sI (tA (tA S 19 (gI S 6) x1) 20 (gI S 6) x2) 6 ((gI S 6) + (1 : Int32))) else none
set_option maxHeartbeats 4000000 in
set_option maxRecDepth 100000 in
theorem c_MX_need {l : Launch} {D : va_G} {ad : Nat → Nat} {ca : Nat → ClassId} {S : StM} {x1 : Int32} {x2 : Int32} {r : Int32 × StM} (hf : m_MX_need S x1 x2 = some r) : KIM l D ad ca yk_1_need (.code yk_1_need bk_1_need 3 (some .int) :: tb) rm_MX_need [.ref (ad 0), .int x1, .int x2] S r := by
  refine met_i (by decide) (Nat.le_of_ble_eq_true rfl) (fun p e s m below meth c A g hr hlk hK hA => ?_)
  replace g : CallFix p m c bk_1_need 3 s _ tb Rk_1 := g
  refine v_lv (lv' := [(0, .ref (ad 0)), (1, .int x1), (2, .int x2)]) rfl ?_
  unfold m_MX_need at hf
  refine v_iload_n g dk_1_need_0 1 rfl rfl (pc' := 1) rfl ?_
  refine v_aload_n g dk_1_need_1 0 rfl rfl (pc' := 2) rfl ?_
  refine gfM_X_138 g hK dk_1_need_2 (pc' := 5) rfl ?_
  obtain ⟨q1, hq, hf⟩ := bnd hf
  refine v_callS_i (As := [.int x1, .int (gI S 5)]) (rest := []) (r := q1) (S1 := S) g hK hA (c_MX_in hq) (kcM_X_102 g.2.2.2.2 rfl rfl (Nat.le_of_ble_eq_true rfl) (Nat.le_of_ble_eq_true rfl)) rfl rfl (Nat.le_of_ble_eq_true rfl) dk_1_need_5 (Nat.zero_le _) (Nat.zero_le _) (pc' := 8) rfl ?_
  refine v_if_eq (tgt := 31) (pc' := 11) g dk_1_need_8 (by decide) rfl (fun hc => ?_) (fun hc => ?_)
  · replace hf := ifT hc hf
    refine v_iconst (v := (-1)) g dk_1_need_31 (by decide) (pc' := 32) rfl ?_
    exact v_iret g hr hlk hK  (Option.some.inj hf) dk_1_need_32
  · replace hf := ifF hc hf
    refine v_iload_n g dk_1_need_11 2 rfl rfl (pc' := 12) rfl ?_
    refine v_aload_n g dk_1_need_12 0 rfl rfl (pc' := 13) rfl ?_
    refine gfM_X_138 g hK dk_1_need_13 (pc' := 16) rfl ?_
    obtain ⟨q2, hq, hf⟩ := bnd hf
    refine v_callS_i (As := [.int x2, .int (gI S 5)]) (rest := []) (r := q2) (S1 := S) g hK hA (c_MX_in hq) (kcM_X_102 g.2.2.2.2 rfl rfl (Nat.le_of_ble_eq_true rfl) (Nat.le_of_ble_eq_true rfl)) rfl rfl (Nat.le_of_ble_eq_true rfl) dk_1_need_16 (Nat.zero_le _) (Nat.zero_le _) (pc' := 19) rfl ?_
    refine v_if_eq (tgt := 31) (pc' := 22) g dk_1_need_19 (by decide) rfl (fun hc => ?_) (fun hc => ?_)
    · replace hf := ifT hc hf
      refine v_iconst (v := (-1)) g dk_1_need_31 (by decide) (pc' := 32) rfl ?_
      exact v_iret g hr hlk hK  (Option.some.inj hf) dk_1_need_32
    · replace hf := ifF hc hf
      refine v_aload_n g dk_1_need_22 0 rfl rfl (pc' := 23) rfl ?_
      refine gfM_X_195 g hK dk_1_need_23 (pc' := 26) rfl ?_
      refine v_bipush (v := 40) g dk_1_need_26 (by decide) (pc' := 28) rfl ?_
      refine v_icmp_ne (tgt := 33) (pc' := 31) g dk_1_need_28 (by decide) rfl (fun hc => ?_) (fun hc => ?_)
      · replace hf := ifF hc hf
        refine v_aload_n g dk_1_need_33 0 rfl rfl (pc' := 34) rfl ?_
        refine gfM_X_68 g hK dk_1_need_34 (pc' := 37) rfl ?_
        refine v_aload_n g dk_1_need_37 0 rfl rfl (pc' := 38) rfl ?_
        refine gfM_X_195 g hK dk_1_need_38 (pc' := 41) rfl ?_
        refine v_iload_n g dk_1_need_41 1 rfl rfl (pc' := 42) rfl ?_
        obtain ⟨hb3, hf⟩ := grd hf
        refine asM_20 g hK hb3 dk_1_need_42 (pc' := 43) rfl ?_
        refine v_aload_n g dk_1_need_43 0 rfl rfl (pc' := 44) rfl ?_
        refine gfM_X_71 g hK dk_1_need_44 (pc' := 47) rfl ?_
        refine v_aload_n g dk_1_need_47 0 rfl rfl (pc' := 48) rfl ?_
        refine gfM_X_195 g hK dk_1_need_48 (pc' := 51) rfl ?_
        refine v_iload_n g dk_1_need_51 2 rfl rfl (pc' := 52) rfl ?_
        refine asM_21 g hK hb3 dk_1_need_52 (pc' := 53) rfl ?_
        refine v_aload_n g dk_1_need_53 0 rfl rfl (pc' := 54) rfl ?_
        refine v_dup g dk_1_need_54 rfl (pc' := 55) rfl ?_
        refine gfM_X_195 g hK dk_1_need_55 (pc' := 58) rfl ?_
        refine v_iconst (v := 1) g dk_1_need_58 (by decide) (pc' := 59) rfl ?_
        refine v_iadd g dk_1_need_59 (pc' := 60) rfl ?_
        refine pfM_X_195 g hK dk_1_need_60 (pc' := 63) rfl ?_
        refine v_aload_n g dk_1_need_63 0 rfl rfl (pc' := 64) rfl ?_
        refine gfM_X_195 g hK dk_1_need_64 (pc' := 67) rfl ?_
        refine v_iconst (v := 1) g dk_1_need_67 (by decide) (pc' := 68) rfl ?_
        refine v_isub g dk_1_need_68 (pc' := 69) rfl ?_
        exact v_iret g hr hlk hK  (Option.some.inj hf) dk_1_need_69
      · replace hf := ifT hc hf
        refine v_iconst (v := (-1)) g dk_1_need_31 (by decide) (pc' := 32) rfl ?_
        exact v_iret g hr hlk hK  (Option.some.inj hf) dk_1_need_32
