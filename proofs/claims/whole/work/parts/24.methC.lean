abbrev rm_CX_findWhatTargetsRead : Room := { frames := 3, cells := 0, slots := 0, locals := 70 }
def L_CX_findWhatTargetsRead_2 : Nat → StC → Int32 → Option (StC)
  | 0, _, _ => none
  | n + 1, S, x1 =>
    if (gI S 4) ≤ x1 then some S
    else if inb x1 16 = true then if (gA S 7 x1.toNatClampNeg) = (-1) then L_CX_findWhatTargetsRead_2 n (tA S 8 x1 0) (x1 + 1)
    else (m_CX_askedBy S (gA S 7 x1.toNatClampNeg)).bind fun q2 =>
    L_CX_findWhatTargetsRead_2 n (tA S 8 x1 (q2 &&& (65535 : Int32))) (x1 + 1) else none
set_option maxHeartbeats 4000000 in
set_option maxRecDepth 100000 in
theorem w_CX_findWhatTargetsRead_2 {p : Program} {l : Launch} {e : Env} {s : State} {m : MethodId} {args : Array Value} {below : List Frame} {meth : Method} {c : Code} {A : Nat → Prop} {D : va_G} {ad : Nat → Nat} {ca : Nat → ClassId} {Rm : StC} (g : CallFix p m c bk_0_findWhatTargetsRead 4 s args tb Rk_0) (hr : meth.sig.returnType = none) (hlk : meth.locks = false) (hK : va_K D vwCl (tyC ca) s) (hA : ∀ q, s.heap.size ≤ q → A q) : ∀ (n : Nat) (S : StC) (x1 : Int32) (o : StC), L_CX_findWhatTargetsRead_2 n S x1 = some o → (Vj p l e rm_CX_findWhatTargetsRead s m args below meth c (MQ below (qV D vwCl (tyC ca) (wdC ad ca) A Rm) args s 0 0 A) D vwCl A 4 0 0 (wdC ad ca o) 56 [(0, .ref (ad 0))] []) → Vj p l e rm_CX_findWhatTargetsRead s m args below meth c (MQ below (qV D vwCl (tyC ca) (wdC ad ca) A Rm) args s 0 0 A) D vwCl A 4 0 0 (wdC ad ca S) 2 [(0, .ref (ad 0)), (1, .int x1)] [] := by
  intro n
  induction n with
  | zero => intro S x1 o hf; exact nomatch (show none = some o from hf)
  | succ n ih =>
    intro S x1 o hf hx
    rw [L_CX_findWhatTargetsRead_2] at hf
    refine v_iload_n g dk_0_findWhatTargetsRead_2 1 rfl rfl (pc' := 3) rfl ?_
    refine v_aload_n g dk_0_findWhatTargetsRead_3 0 rfl rfl (pc' := 4) rfl ?_
    refine gfC_X_40 g hK dk_0_findWhatTargetsRead_4 (pc' := 7) rfl ?_
    refine gfC_X_301 g hK dk_0_findWhatTargetsRead_7 (pc' := 10) rfl ?_
    refine v_icmp_ge (tgt := 56) (pc' := 13) g dk_0_findWhatTargetsRead_10 (by decide) rfl (fun hc => ?_) (fun hc => ?_)
    · replace hf := ifT hc hf
      refine v_sub [0] rfl ?_
      have e9 := Option.some.inj hf
      subst e9
      exact hx
    · replace hf := ifF hc hf
      refine v_aload_n g dk_0_findWhatTargetsRead_13 0 rfl rfl (pc' := 14) rfl ?_
      refine gfC_X_40 g hK dk_0_findWhatTargetsRead_14 (pc' := 17) rfl ?_
      refine gfC_X_122 g hK dk_0_findWhatTargetsRead_17 (pc' := 20) rfl ?_
      refine v_iload_n g dk_0_findWhatTargetsRead_20 1 rfl rfl (pc' := 21) rfl ?_
      obtain ⟨hb1, hf⟩ := grd hf
      refine alC_14 g hK hb1 dk_0_findWhatTargetsRead_21 (pc' := 22) rfl ?_
      refine v_istore_n (lv' := [(2, .int (gA S 7 x1.toNatClampNeg)), (0, .ref (ad 0)), (1, .int x1)]) g dk_0_findWhatTargetsRead_22 rfl (by decide) rfl (pc' := 23) rfl ?_
      refine v_aload_n g dk_0_findWhatTargetsRead_23 1 rfl rfl (pc' := 24) rfl ?_
      refine gfC_X_40 g hK dk_0_findWhatTargetsRead_24 (pc' := 27) rfl ?_
      refine gfC_X_207 g hK dk_0_findWhatTargetsRead_27 (pc' := 30) rfl ?_
      refine v_iload_n g dk_0_findWhatTargetsRead_30 2 rfl rfl (pc' := 31) rfl ?_
      refine v_iload_n g dk_0_findWhatTargetsRead_31 0 rfl rfl (pc' := 32) rfl ?_
      refine v_iconst (v := (-1)) g dk_0_findWhatTargetsRead_32 (by decide) (pc' := 33) rfl ?_
      refine v_icmp_ne (tgt := 40) (pc' := 36) g dk_0_findWhatTargetsRead_33 (by decide) rfl (fun hc => ?_) (fun hc => ?_)
      · replace hf := ifF hc hf
        refine v_aload_n g dk_0_findWhatTargetsRead_40 1 rfl rfl (pc' := 41) rfl ?_
        refine v_iload_n g dk_0_findWhatTargetsRead_41 0 rfl rfl (pc' := 42) rfl ?_
        obtain ⟨q2, hq, hf⟩ := bnd hf
        refine v_callV_i (As := [.int (gA S 7 x1.toNatClampNeg)]) (rest := [.int x1, .ref (ad 15)]) (r := q2) (S1 := S) g hK hA (c_CX_askedBy hq) (kcC_X_298 g.2.2.2.2 rfl rfl (Nat.le_of_ble_eq_true rfl) (Nat.le_of_ble_eq_true rfl)) (ci := 0) (q0 := 0) rfl rfl rfl rfl rfl (Nat.le_of_ble_eq_true rfl) dk_0_findWhatTargetsRead_42 (Nat.zero_le _) (Nat.zero_le _) (pc' := 45) rfl ?_
        refine v_ldcw g dk_0_findWhatTargetsRead_45 lcC_X_302 (pc' := 48) rfl ?_
        refine v_iand g dk_0_findWhatTargetsRead_48 (pc' := 49) rfl ?_
        refine asC_15 g hK hb1 dk_0_findWhatTargetsRead_49 (pc' := 50) rfl ?_
        refine v_iinc (j := 2) (v := x1 + 1) (lv' := [(1, .int (x1 + 1)), (2, .int (gA S 7 x1.toNatClampNeg)), (0, .ref (ad 0))]) g dk_0_findWhatTargetsRead_50 rfl rfl (by decide) rfl (pc' := 53) rfl ?_
        refine v_goto (tgt := 2) g dk_0_findWhatTargetsRead_53 (by decide) ?_
        refine v_sub [2, 0] rfl ?_
        exact ih (tA S 8 x1 (q2 &&& (65535 : Int32))) (x1 + 1) o hf hx
      · replace hf := ifT hc hf
        refine v_iconst (v := 0) g dk_0_findWhatTargetsRead_36 (by decide) (pc' := 37) rfl ?_
        refine v_goto (tgt := 49) g dk_0_findWhatTargetsRead_37 (by decide) ?_
        refine asC_15 g hK hb1 dk_0_findWhatTargetsRead_49 (pc' := 50) rfl ?_
        refine v_iinc (j := 2) (v := x1 + 1) (lv' := [(1, .int (x1 + 1)), (2, .int (gA S 7 x1.toNatClampNeg)), (0, .ref (ad 0))]) g dk_0_findWhatTargetsRead_50 rfl rfl (by decide) rfl (pc' := 53) rfl ?_
        refine v_goto (tgt := 2) g dk_0_findWhatTargetsRead_53 (by decide) ?_
        refine v_sub [2, 0] rfl ?_
        exact ih (tA S 8 x1 0) (x1 + 1) o hf hx
def L_CX_findWhatTargetsRead_71 (x1 : Int32) : Nat → StC → Int32 → Option (StC)
  | 0, _, _ => none
  | n + 1, S, x2 =>
    if inb x1 24 = true then if (gA S 12 x1.toNatClampNeg) ≤ x2 then some S
    else (m_CSelects_conditionAt S x1 x2).bind fun q6 =>
    (m_CX_askedBy S q6).bind fun q7 =>
    if inb (gA S 9 x1.toNatClampNeg) 16 = true then L_CX_findWhatTargetsRead_71 x1 n (tA S 8 (gA S 9 x1.toNatClampNeg) ((gA S 8 (gA S 9 x1.toNatClampNeg).toNatClampNeg) ||| (q7 &&& (65535 : Int32)))) (x2 + 1) else none else none
set_option maxHeartbeats 4000000 in
set_option maxRecDepth 100000 in
theorem w_CX_findWhatTargetsRead_71 {p : Program} {l : Launch} {e : Env} {s : State} {m : MethodId} {args : Array Value} {below : List Frame} {meth : Method} {c : Code} {A : Nat → Prop} {D : va_G} {ad : Nat → Nat} {ca : Nat → ClassId} {Rm : StC} {x1 : Int32} (g : CallFix p m c bk_0_findWhatTargetsRead 4 s args tb Rk_0) (hr : meth.sig.returnType = none) (hlk : meth.locks = false) (hK : va_K D vwCl (tyC ca) s) (hA : ∀ q, s.heap.size ≤ q → A q) : ∀ (n : Nat) (S : StC) (x2 : Int32) (o : StC), L_CX_findWhatTargetsRead_71 x1 n S x2 = some o → (Vj p l e rm_CX_findWhatTargetsRead s m args below meth c (MQ below (qV D vwCl (tyC ca) (wdC ad ca) A Rm) args s 0 0 A) D vwCl A 4 0 0 (wdC ad ca o) 129 [(0, .ref (ad 0)), (1, .int x1)] []) → Vj p l e rm_CX_findWhatTargetsRead s m args below meth c (MQ below (qV D vwCl (tyC ca) (wdC ad ca) A Rm) args s 0 0 A) D vwCl A 4 0 0 (wdC ad ca S) 71 [(0, .ref (ad 0)), (1, .int x1), (2, .int x2)] [] := by
  intro n
  induction n with
  | zero => intro S x2 o hf; exact nomatch (show none = some o from hf)
  | succ n ih =>
    intro S x2 o hf hx
    rw [L_CX_findWhatTargetsRead_71] at hf
    refine v_iload_n g dk_0_findWhatTargetsRead_71 2 rfl rfl (pc' := 72) rfl ?_
    refine v_aload_n g dk_0_findWhatTargetsRead_72 0 rfl rfl (pc' := 73) rfl ?_
    refine gfC_X_47 g hK dk_0_findWhatTargetsRead_73 (pc' := 76) rfl ?_
    refine gfC_X_266 g hK dk_0_findWhatTargetsRead_76 (pc' := 79) rfl ?_
    refine v_iload_n g dk_0_findWhatTargetsRead_79 1 rfl rfl (pc' := 80) rfl ?_
    obtain ⟨hb5, hf⟩ := grd hf
    refine alC_21 g hK hb5 dk_0_findWhatTargetsRead_80 (pc' := 81) rfl ?_
    refine v_icmp_ge (tgt := 129) (pc' := 84) g dk_0_findWhatTargetsRead_81 (by decide) rfl (fun hc => ?_) (fun hc => ?_)
    · replace hf := ifT hc hf
      refine v_sub [0, 1] rfl ?_
      have e9 := Option.some.inj hf
      subst e9
      exact hx
    · replace hf := ifF hc hf
      refine v_aload_n g dk_0_findWhatTargetsRead_84 0 rfl rfl (pc' := 85) rfl ?_
      refine v_aload_n g dk_0_findWhatTargetsRead_85 0 rfl rfl (pc' := 86) rfl ?_
      refine gfC_X_47 g hK dk_0_findWhatTargetsRead_86 (pc' := 89) rfl ?_
      refine v_iload_n g dk_0_findWhatTargetsRead_89 1 rfl rfl (pc' := 90) rfl ?_
      refine v_iload_n g dk_0_findWhatTargetsRead_90 2 rfl rfl (pc' := 91) rfl ?_
      obtain ⟨q6, hq, hf⟩ := bnd hf
      refine v_callV_i (As := [.int x1, .int x2]) (rest := [.ref (ad 0)]) (r := q6) (S1 := S) g hK hA (c_CSelects_conditionAt hq) (kcC_X_292 g.2.2.2.2 rfl rfl (Nat.le_of_ble_eq_true rfl) (Nat.le_of_ble_eq_true rfl)) (ci := 7) (q0 := 16) rfl rfl rfl rfl rfl (Nat.le_of_ble_eq_true rfl) dk_0_findWhatTargetsRead_91 (Nat.zero_le _) (Nat.zero_le _) (pc' := 94) rfl ?_
      obtain ⟨q7, hq, hf⟩ := bnd hf
      refine v_callV_i (As := [.int q6]) (rest := []) (r := q7) (S1 := S) g hK hA (c_CX_askedBy hq) (kcC_X_298 g.2.2.2.2 rfl rfl (Nat.le_of_ble_eq_true rfl) (Nat.le_of_ble_eq_true rfl)) (ci := 0) (q0 := 0) rfl rfl rfl rfl rfl (Nat.le_of_ble_eq_true rfl) dk_0_findWhatTargetsRead_94 (Nat.zero_le _) (Nat.zero_le _) (pc' := 97) rfl ?_
      refine v_istore_n (lv' := [(3, .int q7), (0, .ref (ad 0)), (1, .int x1), (2, .int x2)]) g dk_0_findWhatTargetsRead_97 rfl (by decide) rfl (pc' := 98) rfl ?_
      refine v_aload_n g dk_0_findWhatTargetsRead_98 1 rfl rfl (pc' := 99) rfl ?_
      refine gfC_X_40 g hK dk_0_findWhatTargetsRead_99 (pc' := 102) rfl ?_
      refine gfC_X_207 g hK dk_0_findWhatTargetsRead_102 (pc' := 105) rfl ?_
      refine v_aload_n g dk_0_findWhatTargetsRead_105 1 rfl rfl (pc' := 106) rfl ?_
      refine gfC_X_47 g hK dk_0_findWhatTargetsRead_106 (pc' := 109) rfl ?_
      refine gfC_X_304 g hK dk_0_findWhatTargetsRead_109 (pc' := 112) rfl ?_
      refine v_iload_n g dk_0_findWhatTargetsRead_112 2 rfl rfl (pc' := 113) rfl ?_
      refine alC_17 g hK hb5 dk_0_findWhatTargetsRead_113 (pc' := 114) rfl ?_
      refine v_dup2 g dk_0_findWhatTargetsRead_114 rfl rfl (pc' := 115) rfl ?_
      obtain ⟨hb8, hf⟩ := grd hf
      refine alC_15 g hK hb8 dk_0_findWhatTargetsRead_115 (pc' := 116) rfl ?_
      refine v_iload_n g dk_0_findWhatTargetsRead_116 0 rfl rfl (pc' := 117) rfl ?_
      refine v_ldcw g dk_0_findWhatTargetsRead_117 lcC_X_302 (pc' := 120) rfl ?_
      refine v_iand g dk_0_findWhatTargetsRead_120 (pc' := 121) rfl ?_
      refine v_ior g dk_0_findWhatTargetsRead_121 (pc' := 122) rfl ?_
      refine asC_15 g hK hb8 dk_0_findWhatTargetsRead_122 (pc' := 123) rfl ?_
      refine v_iinc (j := 3) (v := x2 + 1) (lv' := [(2, .int (x2 + 1)), (3, .int q7), (0, .ref (ad 0)), (1, .int x1)]) g dk_0_findWhatTargetsRead_123 rfl rfl (by decide) rfl (pc' := 126) rfl ?_
      refine v_goto (tgt := 71) g dk_0_findWhatTargetsRead_126 (by decide) ?_
      refine v_sub [2, 3, 0] rfl ?_
      exact ih (tA S 8 (gA S 9 x1.toNatClampNeg) ((gA S 8 (gA S 9 x1.toNatClampNeg).toNatClampNeg) ||| (q7 &&& (65535 : Int32)))) (x2 + 1) o hf hx
def L_CX_findWhatTargetsRead_58 : Nat → StC → Int32 → Option (StC)
  | 0, _, _ => none
  | n + 1, S, x1 =>
    if (gI S 5) ≤ x1 then some S
    else (L_CX_findWhatTargetsRead_71 x1 100 S 0).bind fun y10 =>
    L_CX_findWhatTargetsRead_58 n y10 (x1 + 1)
set_option maxHeartbeats 4000000 in
set_option maxRecDepth 100000 in
theorem w_CX_findWhatTargetsRead_58 {p : Program} {l : Launch} {e : Env} {s : State} {m : MethodId} {args : Array Value} {below : List Frame} {meth : Method} {c : Code} {A : Nat → Prop} {D : va_G} {ad : Nat → Nat} {ca : Nat → ClassId} {Rm : StC} (g : CallFix p m c bk_0_findWhatTargetsRead 4 s args tb Rk_0) (hr : meth.sig.returnType = none) (hlk : meth.locks = false) (hK : va_K D vwCl (tyC ca) s) (hA : ∀ q, s.heap.size ≤ q → A q) : ∀ (n : Nat) (S : StC) (x1 : Int32) (o : StC), L_CX_findWhatTargetsRead_58 n S x1 = some o → (Vj p l e rm_CX_findWhatTargetsRead s m args below meth c (MQ below (qV D vwCl (tyC ca) (wdC ad ca) A Rm) args s 0 0 A) D vwCl A 4 0 0 (wdC ad ca o) 135 [(0, .ref (ad 0))] []) → Vj p l e rm_CX_findWhatTargetsRead s m args below meth c (MQ below (qV D vwCl (tyC ca) (wdC ad ca) A Rm) args s 0 0 A) D vwCl A 4 0 0 (wdC ad ca S) 58 [(0, .ref (ad 0)), (1, .int x1)] [] := by
  intro n
  induction n with
  | zero => intro S x1 o hf; exact nomatch (show none = some o from hf)
  | succ n ih =>
    intro S x1 o hf hx
    rw [L_CX_findWhatTargetsRead_58] at hf
    refine v_iload_n g dk_0_findWhatTargetsRead_58 1 rfl rfl (pc' := 59) rfl ?_
    refine v_aload_n g dk_0_findWhatTargetsRead_59 0 rfl rfl (pc' := 60) rfl ?_
    refine gfC_X_47 g hK dk_0_findWhatTargetsRead_60 (pc' := 63) rfl ?_
    refine gfC_X_303 g hK dk_0_findWhatTargetsRead_63 (pc' := 66) rfl ?_
    refine v_icmp_ge (tgt := 135) (pc' := 69) g dk_0_findWhatTargetsRead_66 (by decide) rfl (fun hc => ?_) (fun hc => ?_)
    · replace hf := ifT hc hf
      refine v_sub [0] rfl ?_
      have e9 := Option.some.inj hf
      subst e9
      exact hx
    · replace hf := ifF hc hf
      refine v_iconst (v := 0) g dk_0_findWhatTargetsRead_69 (by decide) (pc' := 70) rfl ?_
      refine v_istore_n (lv' := [(2, .int 0), (0, .ref (ad 0)), (1, .int x1)]) g dk_0_findWhatTargetsRead_70 rfl (by decide) rfl (pc' := 71) rfl ?_
      refine v_sub [1, 2, 0] rfl ?_
      obtain ⟨y10, hL, hf⟩ := bnd hf
      refine w_CX_findWhatTargetsRead_71 g hr hlk hK hA 100 S 0 _ hL ?_
      refine v_iinc (j := 1) (v := x1 + 1) (lv' := [(1, .int (x1 + 1)), (0, .ref (ad 0))]) g dk_0_findWhatTargetsRead_129 rfl rfl (by decide) rfl (pc' := 132) rfl ?_
      refine v_goto (tgt := 58) g dk_0_findWhatTargetsRead_132 (by decide) ?_
      refine v_sub [1, 0] rfl ?_
      exact ih y10 (x1 + 1) o hf hx
def L_CX_findWhatTargetsRead_145 (x1 : Int32) : Nat → StC → Int32 → Option (StC)
  | 0, _, _ => none
  | n + 1, S, x2 =>
    if (gI S 6) ≤ x2 then some S
    else if inb x2 40 = true then if inb (gA S 16 x2.toNatClampNeg) 16 = true then if inb (gA S 17 x2.toNatClampNeg) 16 = true then L_CX_findWhatTargetsRead_145 x1 n (tA S 8 (gA S 16 x2.toNatClampNeg) ((gA S 8 (gA S 16 x2.toNatClampNeg).toNatClampNeg) ||| (gA S 8 (gA S 17 x2.toNatClampNeg).toNatClampNeg))) (x2 + 1) else none else none else none
set_option maxHeartbeats 4000000 in
set_option maxRecDepth 100000 in
theorem w_CX_findWhatTargetsRead_145 {p : Program} {l : Launch} {e : Env} {s : State} {m : MethodId} {args : Array Value} {below : List Frame} {meth : Method} {c : Code} {A : Nat → Prop} {D : va_G} {ad : Nat → Nat} {ca : Nat → ClassId} {Rm : StC} {x1 : Int32} (g : CallFix p m c bk_0_findWhatTargetsRead 4 s args tb Rk_0) (hr : meth.sig.returnType = none) (hlk : meth.locks = false) (hK : va_K D vwCl (tyC ca) s) (hA : ∀ q, s.heap.size ≤ q → A q) : ∀ (n : Nat) (S : StC) (x2 : Int32) (o : StC), L_CX_findWhatTargetsRead_145 x1 n S x2 = some o → (Vj p l e rm_CX_findWhatTargetsRead s m args below meth c (MQ below (qV D vwCl (tyC ca) (wdC ad ca) A Rm) args s 0 0 A) D vwCl A 4 0 0 (wdC ad ca o) 199 [(0, .ref (ad 0)), (1, .int x1)] []) → Vj p l e rm_CX_findWhatTargetsRead s m args below meth c (MQ below (qV D vwCl (tyC ca) (wdC ad ca) A Rm) args s 0 0 A) D vwCl A 4 0 0 (wdC ad ca S) 145 [(0, .ref (ad 0)), (1, .int x1), (2, .int x2)] [] := by
  intro n
  induction n with
  | zero => intro S x2 o hf; exact nomatch (show none = some o from hf)
  | succ n ih =>
    intro S x2 o hf hx
    rw [L_CX_findWhatTargetsRead_145] at hf
    refine v_iload_n g dk_0_findWhatTargetsRead_145 2 rfl rfl (pc' := 146) rfl ?_
    refine v_aload_n g dk_0_findWhatTargetsRead_146 0 rfl rfl (pc' := 147) rfl ?_
    refine gfC_X_54 g hK dk_0_findWhatTargetsRead_147 (pc' := 150) rfl ?_
    refine gfC_X_305 g hK dk_0_findWhatTargetsRead_150 (pc' := 153) rfl ?_
    refine v_icmp_ge (tgt := 199) (pc' := 156) g dk_0_findWhatTargetsRead_153 (by decide) rfl (fun hc => ?_) (fun hc => ?_)
    · replace hf := ifT hc hf
      refine v_sub [0, 1] rfl ?_
      have e9 := Option.some.inj hf
      subst e9
      exact hx
    · replace hf := ifF hc hf
      refine v_aload_n g dk_0_findWhatTargetsRead_156 0 rfl rfl (pc' := 157) rfl ?_
      refine gfC_X_40 g hK dk_0_findWhatTargetsRead_157 (pc' := 160) rfl ?_
      refine gfC_X_207 g hK dk_0_findWhatTargetsRead_160 (pc' := 163) rfl ?_
      refine v_aload_n g dk_0_findWhatTargetsRead_163 0 rfl rfl (pc' := 164) rfl ?_
      refine gfC_X_54 g hK dk_0_findWhatTargetsRead_164 (pc' := 167) rfl ?_
      refine gfC_X_306 g hK dk_0_findWhatTargetsRead_167 (pc' := 170) rfl ?_
      refine v_iload_n g dk_0_findWhatTargetsRead_170 2 rfl rfl (pc' := 171) rfl ?_
      obtain ⟨hb13, hf⟩ := grd hf
      refine alC_26 g hK hb13 dk_0_findWhatTargetsRead_171 (pc' := 172) rfl ?_
      refine v_dup2 g dk_0_findWhatTargetsRead_172 rfl rfl (pc' := 173) rfl ?_
      obtain ⟨hb14, hf⟩ := grd hf
      refine alC_15 g hK hb14 dk_0_findWhatTargetsRead_173 (pc' := 174) rfl ?_
      refine v_aload_n g dk_0_findWhatTargetsRead_174 0 rfl rfl (pc' := 175) rfl ?_
      refine gfC_X_40 g hK dk_0_findWhatTargetsRead_175 (pc' := 178) rfl ?_
      refine gfC_X_207 g hK dk_0_findWhatTargetsRead_178 (pc' := 181) rfl ?_
      refine v_aload_n g dk_0_findWhatTargetsRead_181 0 rfl rfl (pc' := 182) rfl ?_
      refine gfC_X_54 g hK dk_0_findWhatTargetsRead_182 (pc' := 185) rfl ?_
      refine gfC_X_307 g hK dk_0_findWhatTargetsRead_185 (pc' := 188) rfl ?_
      refine v_iload_n g dk_0_findWhatTargetsRead_188 2 rfl rfl (pc' := 189) rfl ?_
      refine alC_27 g hK hb13 dk_0_findWhatTargetsRead_189 (pc' := 190) rfl ?_
      obtain ⟨hb15, hf⟩ := grd hf
      refine alC_15 g hK hb15 dk_0_findWhatTargetsRead_190 (pc' := 191) rfl ?_
      refine v_ior g dk_0_findWhatTargetsRead_191 (pc' := 192) rfl ?_
      refine asC_15 g hK hb14 dk_0_findWhatTargetsRead_192 (pc' := 193) rfl ?_
      refine v_iinc (j := 2) (v := x2 + 1) (lv' := [(2, .int (x2 + 1)), (0, .ref (ad 0)), (1, .int x1)]) g dk_0_findWhatTargetsRead_193 rfl rfl (by decide) rfl (pc' := 196) rfl ?_
      refine v_goto (tgt := 145) g dk_0_findWhatTargetsRead_196 (by decide) ?_
      refine v_sub [1, 2, 0] rfl ?_
      exact ih (tA S 8 (gA S 16 x2.toNatClampNeg) ((gA S 8 (gA S 16 x2.toNatClampNeg).toNatClampNeg) ||| (gA S 8 (gA S 17 x2.toNatClampNeg).toNatClampNeg))) (x2 + 1) o hf hx
def L_CX_findWhatTargetsRead_137 : Nat → StC → Int32 → Option (StC)
  | 0, _, _ => none
  | n + 1, S, x1 =>
    if 16 ≤ x1 then some S
    else (L_CX_findWhatTargetsRead_145 x1 100 S 0).bind fun y17 =>
    L_CX_findWhatTargetsRead_137 n y17 (x1 + 1)
set_option maxHeartbeats 4000000 in
set_option maxRecDepth 100000 in
theorem w_CX_findWhatTargetsRead_137 {p : Program} {l : Launch} {e : Env} {s : State} {m : MethodId} {args : Array Value} {below : List Frame} {meth : Method} {c : Code} {A : Nat → Prop} {D : va_G} {ad : Nat → Nat} {ca : Nat → ClassId} {Rm : StC} (g : CallFix p m c bk_0_findWhatTargetsRead 4 s args tb Rk_0) (hr : meth.sig.returnType = none) (hlk : meth.locks = false) (hK : va_K D vwCl (tyC ca) s) (hA : ∀ q, s.heap.size ≤ q → A q) : ∀ (n : Nat) (S : StC) (x1 : Int32) (o : StC), L_CX_findWhatTargetsRead_137 n S x1 = some o → (Vj p l e rm_CX_findWhatTargetsRead s m args below meth c (MQ below (qV D vwCl (tyC ca) (wdC ad ca) A Rm) args s 0 0 A) D vwCl A 4 0 0 (wdC ad ca o) 205 [] []) → Vj p l e rm_CX_findWhatTargetsRead s m args below meth c (MQ below (qV D vwCl (tyC ca) (wdC ad ca) A Rm) args s 0 0 A) D vwCl A 4 0 0 (wdC ad ca S) 137 [(0, .ref (ad 0)), (1, .int x1)] [] := by
  intro n
  induction n with
  | zero => intro S x1 o hf; exact nomatch (show none = some o from hf)
  | succ n ih =>
    intro S x1 o hf hx
    rw [L_CX_findWhatTargetsRead_137] at hf
    refine v_iload_n g dk_0_findWhatTargetsRead_137 1 rfl rfl (pc' := 138) rfl ?_
    refine v_bipush (v := 16) g dk_0_findWhatTargetsRead_138 (by decide) (pc' := 140) rfl ?_
    refine v_icmp_ge (tgt := 205) (pc' := 143) g dk_0_findWhatTargetsRead_140 (by decide) rfl (fun hc => ?_) (fun hc => ?_)
    · replace hf := ifT hc hf
      refine v_sub [] rfl ?_
      have e9 := Option.some.inj hf
      subst e9
      exact hx
    · replace hf := ifF hc hf
      refine v_iconst (v := 0) g dk_0_findWhatTargetsRead_143 (by decide) (pc' := 144) rfl ?_
      refine v_istore_n (lv' := [(2, .int 0), (0, .ref (ad 0)), (1, .int x1)]) g dk_0_findWhatTargetsRead_144 rfl (by decide) rfl (pc' := 145) rfl ?_
      refine v_sub [1, 2, 0] rfl ?_
      obtain ⟨y17, hL, hf⟩ := bnd hf
      refine w_CX_findWhatTargetsRead_145 g hr hlk hK hA 100 S 0 _ hL ?_
      refine v_iinc (j := 1) (v := x1 + 1) (lv' := [(1, .int (x1 + 1)), (0, .ref (ad 0))]) g dk_0_findWhatTargetsRead_199 rfl rfl (by decide) rfl (pc' := 202) rfl ?_
      refine v_goto (tgt := 137) g dk_0_findWhatTargetsRead_202 (by decide) ?_
      refine v_sub [1, 0] rfl ?_
      exact ih y17 (x1 + 1) o hf hx
def m_CX_findWhatTargetsRead (S : StC) : Option StC :=
  (L_CX_findWhatTargetsRead_2 100 S 0).bind fun y4 =>
    (L_CX_findWhatTargetsRead_58 100 y4 0).bind fun y12 =>
    (L_CX_findWhatTargetsRead_137 100 y12 0).bind fun y19 =>
    some y19
set_option maxHeartbeats 4000000 in
set_option maxRecDepth 100000 in
theorem c_CX_findWhatTargetsRead {l : Launch} {D : va_G} {ad : Nat → Nat} {ca : Nat → ClassId} {S : StC} {r : StC} (hf : m_CX_findWhatTargetsRead S = some r) : KVC l D ad ca yk_0_findWhatTargetsRead (.code yk_0_findWhatTargetsRead bk_0_findWhatTargetsRead 4 none :: tb) rm_CX_findWhatTargetsRead [.ref (ad 0)] S r := by
  refine met_v (by decide) (Nat.le_of_ble_eq_true rfl) (fun p e s m below meth c A g hr hlk hK hA => ?_)
  replace g : CallFix p m c bk_0_findWhatTargetsRead 4 s _ tb Rk_0 := g
  refine v_lv (lv' := [(0, .ref (ad 0))]) rfl ?_
  unfold m_CX_findWhatTargetsRead at hf
  refine v_iconst (v := 0) g dk_0_findWhatTargetsRead_0 (by decide) (pc' := 1) rfl ?_
  refine v_istore_n (lv' := [(1, .int 0), (0, .ref (ad 0))]) g dk_0_findWhatTargetsRead_1 rfl (by decide) rfl (pc' := 2) rfl ?_
  refine v_sub [1, 0] rfl ?_
  obtain ⟨y4, hL, hf⟩ := bnd hf
  refine w_CX_findWhatTargetsRead_2 g hr hlk hK hA 100 S 0 _ hL ?_
  refine v_iconst (v := 0) g dk_0_findWhatTargetsRead_56 (by decide) (pc' := 57) rfl ?_
  refine v_istore_n (lv' := [(1, .int 0), (0, .ref (ad 0))]) g dk_0_findWhatTargetsRead_57 rfl (by decide) rfl (pc' := 58) rfl ?_
  refine v_sub [1, 0] rfl ?_
  obtain ⟨y12, hL, hf⟩ := bnd hf
  refine w_CX_findWhatTargetsRead_58 g hr hlk hK hA 100 y4 0 _ hL ?_
  refine v_iconst (v := 0) g dk_0_findWhatTargetsRead_135 (by decide) (pc' := 136) rfl ?_
  refine v_istore_n (lv' := [(1, .int 0), (0, .ref (ad 0))]) g dk_0_findWhatTargetsRead_136 rfl (by decide) rfl (pc' := 137) rfl ?_
  refine v_sub [1, 0] rfl ?_
  obtain ⟨y19, hL, hf⟩ := bnd hf
  refine w_CX_findWhatTargetsRead_137 g hr hlk hK hA 100 y12 0 _ hL ?_
  exact v_vret g hr hlk hK  (Option.some.inj hf) dk_0_findWhatTargetsRead_205
abbrev rm_CX_reads : Room := { frames := 4, cells := 0, slots := 0, locals := 93 }
def m_CX_reads (S : StC) (x1 : Int32) : Option (Int32 × StC) :=
  (m_CTargets_isThere S x1).bind fun q1 =>
    if q1 = 0 then some (0, S)
    else (m_CX_findWhatTargetsRead S).bind fun q2 =>
    if inb x1 16 = true then some (gA q2 8 x1.toNatClampNeg, q2) else none
set_option maxHeartbeats 4000000 in
set_option maxRecDepth 100000 in
theorem c_CX_reads {l : Launch} {D : va_G} {ad : Nat → Nat} {ca : Nat → ClassId} {S : StC} {x1 : Int32} {r : Int32 × StC} (hf : m_CX_reads S x1 = some r) : KIC l D ad ca yk_0_reads (.code yk_0_reads bk_0_reads 2 (some .int) :: tb) rm_CX_reads [.ref (ad 0), .int x1] S r := by
  refine met_i (by decide) (Nat.le_of_ble_eq_true rfl) (fun p e s m below meth c A g hr hlk hK hA => ?_)
  replace g : CallFix p m c bk_0_reads 2 s _ tb Rk_0 := g
  refine v_lv (lv' := [(0, .ref (ad 0)), (1, .int x1)]) rfl ?_
  unfold m_CX_reads at hf
  refine v_aload_n g dk_0_reads_0 0 rfl rfl (pc' := 1) rfl ?_
  refine gfC_X_40 g hK dk_0_reads_1 (pc' := 4) rfl ?_
  refine v_iload_n g dk_0_reads_4 1 rfl rfl (pc' := 5) rfl ?_
  obtain ⟨q1, hq, hf⟩ := bnd hf
  refine v_callV_i (As := [.int x1]) (rest := []) (r := q1) (S1 := S) g hK hA (c_CTargets_isThere hq) (kcC_X_121 g.2.2.2.2 rfl rfl (Nat.le_of_ble_eq_true rfl) (Nat.le_of_ble_eq_true rfl)) (ci := 9) (q0 := 13) rfl rfl rfl rfl rfl (Nat.le_of_ble_eq_true rfl) dk_0_reads_5 (Nat.zero_le _) (Nat.zero_le _) (pc' := 8) rfl ?_
  refine v_if_ne (tgt := 13) (pc' := 11) g dk_0_reads_8 (by decide) rfl (fun hc => ?_) (fun hc => ?_)
  · replace hf := ifF hc hf
    refine v_aload_n g dk_0_reads_13 0 rfl rfl (pc' := 14) rfl ?_
    obtain ⟨q2, hq, hf⟩ := bnd hf
    refine v_callV_v (As := []) (rest := []) (S1 := q2) g hK hA (c_CX_findWhatTargetsRead hq) (kcC_X_204 g.2.2.2.2 rfl rfl (Nat.le_of_ble_eq_true rfl) (Nat.le_of_ble_eq_true rfl)) (ci := 0) (q0 := 0) rfl rfl rfl rfl rfl (Nat.le_of_ble_eq_true rfl) dk_0_reads_14 (Nat.zero_le _) (Nat.zero_le _) (pc' := 17) rfl ?_
    refine v_aload_n g dk_0_reads_17 0 rfl rfl (pc' := 18) rfl ?_
    refine gfC_X_40 g hK dk_0_reads_18 (pc' := 21) rfl ?_
    refine gfC_X_207 g hK dk_0_reads_21 (pc' := 24) rfl ?_
    refine v_iload_n g dk_0_reads_24 1 rfl rfl (pc' := 25) rfl ?_
    obtain ⟨hb3, hf⟩ := grd hf
    refine alC_15 g hK hb3 dk_0_reads_25 (pc' := 26) rfl ?_
    exact v_iret g hr hlk hK  (Option.some.inj hf) dk_0_reads_26
  · replace hf := ifT hc hf
    refine v_iconst (v := 0) g dk_0_reads_11 (by decide) (pc' := 12) rfl ?_
    exact v_iret g hr hlk hK  (Option.some.inj hf) dk_0_reads_12
abbrev rm_CX_trim : Room := { frames := 4, cells := 0, slots := 0, locals := 93 }
def m_CX_trim (S : StC) (x1 : Int32) (x2 : Int32) : Option (Int32 × StC) :=
  (m_CTargets_isThere S x1).bind fun q1 =>
    if q1 = 0 then some ((-1), S)
    else (m_CConfigurations_isThere S x2).bind fun q2 =>
    if q2 = 0 then some ((-1), S)
    else (m_CX_findWhatTargetsRead S).bind fun q3 =>
    if inb x2 60 = true then if inb x1 16 = true then (m_CX_trimmed q3 (gB q3 0 x2.toNatClampNeg) (gA q3 8 x1.toNatClampNeg)).bind fun q6 =>
    (m_CConfigurations_numberOf q3 q6).bind fun q7 =>
    some (q7.1, q7.2) else none else none
set_option maxHeartbeats 4000000 in
set_option maxRecDepth 100000 in
theorem c_CX_trim {l : Launch} {D : va_G} {ad : Nat → Nat} {ca : Nat → ClassId} {S : StC} {x1 : Int32} {x2 : Int32} {r : Int32 × StC} (hf : m_CX_trim S x1 x2 = some r) : KIC l D ad ca yk_0_trim (.code yk_0_trim bk_0_trim 5 (some .int) :: tb) rm_CX_trim [.ref (ad 0), .int x1, .int x2] S r := by
  refine met_i (by decide) (Nat.le_of_ble_eq_true rfl) (fun p e s m below meth c A g hr hlk hK hA => ?_)
  replace g : CallFix p m c bk_0_trim 5 s _ tb Rk_0 := g
  refine v_lv (lv' := [(0, .ref (ad 0)), (1, .int x1), (2, .int x2)]) rfl ?_
  unfold m_CX_trim at hf
  refine v_aload_n g dk_0_trim_0 0 rfl rfl (pc' := 1) rfl ?_
  refine gfC_X_40 g hK dk_0_trim_1 (pc' := 4) rfl ?_
  refine v_iload_n g dk_0_trim_4 1 rfl rfl (pc' := 5) rfl ?_
  obtain ⟨q1, hq, hf⟩ := bnd hf
  refine v_callV_i (As := [.int x1]) (rest := []) (r := q1) (S1 := S) g hK hA (c_CTargets_isThere hq) (kcC_X_121 g.2.2.2.2 rfl rfl (Nat.le_of_ble_eq_true rfl) (Nat.le_of_ble_eq_true rfl)) (ci := 9) (q0 := 13) rfl rfl rfl rfl rfl (Nat.le_of_ble_eq_true rfl) dk_0_trim_5 (Nat.zero_le _) (Nat.zero_le _) (pc' := 8) rfl ?_
  refine v_if_eq (tgt := 22) (pc' := 11) g dk_0_trim_8 (by decide) rfl (fun hc => ?_) (fun hc => ?_)
  · replace hf := ifT hc hf
    refine v_iconst (v := (-1)) g dk_0_trim_22 (by decide) (pc' := 23) rfl ?_
    exact v_iret g hr hlk hK  (Option.some.inj hf) dk_0_trim_23
  · replace hf := ifF hc hf
    refine v_aload_n g dk_0_trim_11 0 rfl rfl (pc' := 12) rfl ?_
    refine gfC_X_26 g hK dk_0_trim_12 (pc' := 15) rfl ?_
    refine v_iload_n g dk_0_trim_15 2 rfl rfl (pc' := 16) rfl ?_
    obtain ⟨q2, hq, hf⟩ := bnd hf
    refine v_callV_i (As := [.int x2]) (rest := []) (r := q2) (S1 := S) g hK hA (c_CConfigurations_isThere hq) (kcC_X_161 g.2.2.2.2 rfl rfl (Nat.le_of_ble_eq_true rfl) (Nat.le_of_ble_eq_true rfl)) (ci := 3) (q0 := 7) rfl rfl rfl rfl rfl (Nat.le_of_ble_eq_true rfl) dk_0_trim_16 (Nat.zero_le _) (Nat.zero_le _) (pc' := 19) rfl ?_
    refine v_if_ne (tgt := 24) (pc' := 22) g dk_0_trim_19 (by decide) rfl (fun hc => ?_) (fun hc => ?_)
    · replace hf := ifF hc hf
      refine v_aload_n g dk_0_trim_24 0 rfl rfl (pc' := 25) rfl ?_
      obtain ⟨q3, hq, hf⟩ := bnd hf
      refine v_callV_v (As := []) (rest := []) (S1 := q3) g hK hA (c_CX_findWhatTargetsRead hq) (kcC_X_204 g.2.2.2.2 rfl rfl (Nat.le_of_ble_eq_true rfl) (Nat.le_of_ble_eq_true rfl)) (ci := 0) (q0 := 0) rfl rfl rfl rfl rfl (Nat.le_of_ble_eq_true rfl) dk_0_trim_25 (Nat.zero_le _) (Nat.zero_le _) (pc' := 28) rfl ?_
      refine v_aload_n g dk_0_trim_28 0 rfl rfl (pc' := 29) rfl ?_
      refine gfC_X_26 g hK dk_0_trim_29 (pc' := 32) rfl ?_
      refine gfC_X_165 g hK dk_0_trim_32 (pc' := 35) rfl ?_
      refine v_iload_n g dk_0_trim_35 2 rfl rfl (pc' := 36) rfl ?_
      obtain ⟨hb4, hf⟩ := grd hf
      refine alC_8 g hK hb4 dk_0_trim_36 (pc' := 37) rfl ?_
      refine v_lstore_n (lv' := [(3, .long (gB q3 0 x2.toNatClampNeg)), (0, .ref (ad 0)), (1, .int x1), (2, .int x2)]) g dk_0_trim_37 rfl (by decide) rfl (pc' := 38) rfl ?_
      refine v_aload_n g dk_0_trim_38 1 rfl rfl (pc' := 39) rfl ?_
      refine gfC_X_26 g hK dk_0_trim_39 (pc' := 42) rfl ?_
      refine v_aload_n g dk_0_trim_42 1 rfl rfl (pc' := 43) rfl ?_
      refine v_lload_n g dk_0_trim_43 0 rfl rfl (pc' := 44) rfl ?_
      refine v_aload_n g dk_0_trim_44 1 rfl rfl (pc' := 45) rfl ?_
      refine gfC_X_40 g hK dk_0_trim_45 (pc' := 48) rfl ?_
      refine gfC_X_207 g hK dk_0_trim_48 (pc' := 51) rfl ?_
      refine v_iload_n g dk_0_trim_51 2 rfl rfl (pc' := 52) rfl ?_
      obtain ⟨hb5, hf⟩ := grd hf
      refine alC_15 g hK hb5 dk_0_trim_52 (pc' := 53) rfl ?_
      obtain ⟨q6, hq, hf⟩ := bnd hf
      refine v_callV_l (As := [.long (gB q3 0 x2.toNatClampNeg), .int (gA q3 8 x1.toNatClampNeg)]) (rest := [.ref (ad 7)]) (r := q6) (S1 := q3) g hK hA (c_CX_trimmed hq) (kcC_X_153 g.2.2.2.2 rfl rfl (Nat.le_of_ble_eq_true rfl) (Nat.le_of_ble_eq_true rfl)) (ci := 0) (q0 := 0) rfl rfl rfl rfl rfl (Nat.le_of_ble_eq_true rfl) dk_0_trim_53 (Nat.zero_le _) (Nat.zero_le _) (pc' := 56) rfl ?_
      obtain ⟨q7, hq, hf⟩ := bnd hf
      refine v_callV_i (As := [.long q6]) (rest := []) (r := q7.1) (S1 := q7.2) g hK hA (c_CConfigurations_numberOf hq) (kcC_X_157 g.2.2.2.2 rfl rfl (Nat.le_of_ble_eq_true rfl) (Nat.le_of_ble_eq_true rfl)) (ci := 3) (q0 := 7) rfl rfl rfl rfl rfl (Nat.le_of_ble_eq_true rfl) dk_0_trim_56 (Nat.zero_le _) (Nat.zero_le _) (pc' := 59) rfl ?_
      exact v_iret g hr hlk hK  (Option.some.inj hf) dk_0_trim_59
    · replace hf := ifT hc hf
      refine v_iconst (v := (-1)) g dk_0_trim_22 (by decide) (pc' := 23) rfl ?_
      exact v_iret g hr hlk hK  (Option.some.inj hf) dk_0_trim_23
abbrev rm_CPairs_clear : Room := { frames := 0, cells := 0, slots := 0, locals := 0 }
def m_CPairs_clear (S : StC) : Option StC :=
  some (sI S 7 0)
set_option maxHeartbeats 4000000 in
set_option maxRecDepth 100000 in
theorem c_CPairs_clear {l : Launch} {D : va_G} {ad : Nat → Nat} {ca : Nat → ClassId} {S : StC} {r : StC} (hf : m_CPairs_clear S = some r) : KVC l D ad ca yk_8_clear (.code yk_8_clear bk_8_clear 1 none :: tb) rm_CPairs_clear [.ref (ad 31)] S r := by
  refine met_v (by decide) (Nat.le_of_ble_eq_true rfl) (fun p e s m below meth c A g hr hlk hK hA => ?_)
  replace g : CallFix p m c bk_8_clear 1 s _ tb Rk_8 := g
  refine v_lv (lv' := [(0, .ref (ad 31))]) rfl ?_
  unfold m_CPairs_clear at hf
  refine v_aload_n g dk_8_clear_0 0 rfl rfl (pc' := 1) rfl ?_
  refine v_iconst (v := 0) g dk_8_clear_1 (by decide) (pc' := 2) rfl ?_
  refine pfC_Pairs_25 g hK dk_8_clear_2 (pc' := 5) rfl ?_
  exact v_vret g hr hlk hK  (Option.some.inj hf) dk_8_clear_5
abbrev rm_CPairs_numberOf : Room := { frames := 0, cells := 0, slots := 0, locals := 0 }
def L_CPairs_numberOf_2 (S : StC) (x1 : Int32) (x2 : Int32) : Nat → Int32 → Option (Unit ⊕ (Int32 × StC))
  | 0, _ => none
  | n + 1, x3 =>
    if (gI S 7) ≤ x3 then some (.inl ())
    else if inb x3 60 = true then if (gA S 21 x3.toNatClampNeg) = x1 then if (gA S 22 x3.toNatClampNeg) = x2 then some (.inr (x3, S))
    else L_CPairs_numberOf_2 S x1 x2 n (x3 + 1)
    else L_CPairs_numberOf_2 S x1 x2 n (x3 + 1) else none
set_option maxHeartbeats 4000000 in
set_option maxRecDepth 100000 in
theorem w_CPairs_numberOf_2 {p : Program} {l : Launch} {e : Env} {s : State} {m : MethodId} {args : Array Value} {below : List Frame} {meth : Method} {c : Code} {A : Nat → Prop} {D : va_G} {ad : Nat → Nat} {ca : Nat → ClassId} {Rm : Int32 × StC} {S : StC} {x1 : Int32} {x2 : Int32} (g : CallFix p m c bk_8_numberOf 4 s args tb Rk_8) (hr : meth.sig.returnType = some .int) (hlk : meth.locks = false) (hK : va_K D vwCl (tyC ca) s) (hA : ∀ q, s.heap.size ≤ q → A q) : ∀ (n : Nat) (x3 : Int32) (o : Unit ⊕ (Int32 × StC)), L_CPairs_numberOf_2 S x1 x2 n x3 = some o → (∀ y, o = .inl y → Vj p l e rm_CPairs_numberOf s m args below meth c (MQ below (qI D vwCl (tyC ca) (wdC ad ca) A Rm) args s 0 0 A) D vwCl A 4 0 0 (wdC ad ca S) 38 [(0, .ref (ad 31)), (1, .int x1), (2, .int x2)] []) → (∀ r, o = .inr r → r = Rm) → Vj p l e rm_CPairs_numberOf s m args below meth c (MQ below (qI D vwCl (tyC ca) (wdC ad ca) A Rm) args s 0 0 A) D vwCl A 4 0 0 (wdC ad ca S) 2 [(0, .ref (ad 31)), (1, .int x1), (2, .int x2), (3, .int x3)] [] := by
  intro n
  induction n with
  | zero => intro x3 o hf; exact nomatch (show none = some o from hf)
  | succ n ih =>
    intro x3 o hf hx hret
    rw [L_CPairs_numberOf_2] at hf
    refine v_iload_n g dk_8_numberOf_2 3 rfl rfl (pc' := 3) rfl ?_
    refine v_aload_n g dk_8_numberOf_3 0 rfl rfl (pc' := 4) rfl ?_
    refine gfC_Pairs_25 g hK dk_8_numberOf_4 (pc' := 7) rfl ?_
    refine v_icmp_ge (tgt := 38) (pc' := 10) g dk_8_numberOf_7 (by decide) rfl (fun hc => ?_) (fun hc => ?_)
    · replace hf := ifT hc hf
      refine v_sub [0, 1, 2] rfl ?_
      exact hx _ (Option.some.inj hf).symm
    · replace hf := ifF hc hf
      refine v_aload_n g dk_8_numberOf_10 0 rfl rfl (pc' := 11) rfl ?_
      refine gfC_Pairs_9 g hK dk_8_numberOf_11 (pc' := 14) rfl ?_
      refine v_iload_n g dk_8_numberOf_14 3 rfl rfl (pc' := 15) rfl ?_
      obtain ⟨hb1, hf⟩ := grd hf
      refine alC_32 g hK hb1 dk_8_numberOf_15 (pc' := 16) rfl ?_
      refine v_iload_n g dk_8_numberOf_16 1 rfl rfl (pc' := 17) rfl ?_
      refine v_icmp_ne (tgt := 32) (pc' := 20) g dk_8_numberOf_17 (by decide) rfl (fun hc => ?_) (fun hc => ?_)
      · replace hf := ifF hc hf
        refine v_iinc (j := 3) (v := x3 + 1) (lv' := [(3, .int (x3 + 1)), (0, .ref (ad 31)), (1, .int x1), (2, .int x2)]) g dk_8_numberOf_32 rfl rfl (by decide) rfl (pc' := 35) rfl ?_
        refine v_goto (tgt := 2) g dk_8_numberOf_35 (by decide) ?_
        refine v_sub [1, 2, 3, 0] rfl ?_
        exact ih (x3 + 1) o hf hx hret
      · replace hf := ifT hc hf
        refine v_aload_n g dk_8_numberOf_20 0 rfl rfl (pc' := 21) rfl ?_
        refine gfC_Pairs_15 g hK dk_8_numberOf_21 (pc' := 24) rfl ?_
        refine v_iload_n g dk_8_numberOf_24 3 rfl rfl (pc' := 25) rfl ?_
        refine alC_33 g hK hb1 dk_8_numberOf_25 (pc' := 26) rfl ?_
        refine v_iload_n g dk_8_numberOf_26 2 rfl rfl (pc' := 27) rfl ?_
        refine v_icmp_ne (tgt := 32) (pc' := 30) g dk_8_numberOf_27 (by decide) rfl (fun hc => ?_) (fun hc => ?_)
        · replace hf := ifF hc hf
          refine v_iinc (j := 3) (v := x3 + 1) (lv' := [(3, .int (x3 + 1)), (0, .ref (ad 31)), (1, .int x1), (2, .int x2)]) g dk_8_numberOf_32 rfl rfl (by decide) rfl (pc' := 35) rfl ?_
          refine v_goto (tgt := 2) g dk_8_numberOf_35 (by decide) ?_
          refine v_sub [1, 2, 3, 0] rfl ?_
          exact ih (x3 + 1) o hf hx hret
        · replace hf := ifT hc hf
          refine v_iload_n g dk_8_numberOf_30 3 rfl rfl (pc' := 31) rfl ?_
          exact v_iret g hr hlk hK  (hret _ (Option.some.inj hf).symm) dk_8_numberOf_31
def m_CPairs_numberOf (S : StC) (x1 : Int32) (x2 : Int32) : Option (Int32 × StC) :=
  (L_CPairs_numberOf_2 S x1 x2 100 0).bind fun o2 => exK o2 fun y3 =>
    if (gI S 7) < 60 then if inb (gI S 7) 60 = true then some (gI S 7, sI (tB (tA (tA (tA S 21 (gI S 7) x1) 22 (gI S 7) x2) 23 (gI S 7) 0) 2 (gI S 7) 0) 7 ((gI S 7) + (1 : Int32))) else none
    else some ((-1), S)
set_option maxHeartbeats 4000000 in
set_option maxRecDepth 100000 in
theorem c_CPairs_numberOf {l : Launch} {D : va_G} {ad : Nat → Nat} {ca : Nat → ClassId} {S : StC} {x1 : Int32} {x2 : Int32} {r : Int32 × StC} (hf : m_CPairs_numberOf S x1 x2 = some r) : KIC l D ad ca yk_8_numberOf (.code yk_8_numberOf bk_8_numberOf 4 (some .int) :: tb) rm_CPairs_numberOf [.ref (ad 31), .int x1, .int x2] S r := by
  refine met_i (by decide) (Nat.le_of_ble_eq_true rfl) (fun p e s m below meth c A g hr hlk hK hA => ?_)
  replace g : CallFix p m c bk_8_numberOf 4 s _ tb Rk_8 := g
  refine v_lv (lv' := [(0, .ref (ad 31)), (1, .int x1), (2, .int x2)]) rfl ?_
  unfold m_CPairs_numberOf at hf
  refine v_iconst (v := 0) g dk_8_numberOf_0 (by decide) (pc' := 1) rfl ?_
  refine v_istore_n (lv' := [(3, .int 0), (0, .ref (ad 31)), (1, .int x1), (2, .int x2)]) g dk_8_numberOf_1 rfl (by decide) rfl (pc' := 2) rfl ?_
  refine v_sub [1, 2, 3, 0] rfl ?_
  obtain ⟨o2, hL, hf⟩ := bnd hf
  refine w_CPairs_numberOf_2 g hr hlk hK hA 100 0 _ hL (fun y3 hy => ?_) (fun r9 hy => ?_)
  · subst hy
    replace hf := exKl hf
    refine v_aload_n g dk_8_numberOf_38 0 rfl rfl (pc' := 39) rfl ?_
    refine gfC_Pairs_25 g hK dk_8_numberOf_39 (pc' := 42) rfl ?_
    refine v_bipush (v := 60) g dk_8_numberOf_42 (by decide) (pc' := 44) rfl ?_
    refine v_icmp_lt (tgt := 49) (pc' := 47) g dk_8_numberOf_44 (by decide) rfl (fun hc => ?_) (fun hc => ?_)
    · replace hf := ifT hc hf
      refine v_aload_n g dk_8_numberOf_49 0 rfl rfl (pc' := 50) rfl ?_
      refine gfC_Pairs_9 g hK dk_8_numberOf_50 (pc' := 53) rfl ?_
      refine v_aload_n g dk_8_numberOf_53 0 rfl rfl (pc' := 54) rfl ?_
      refine gfC_Pairs_25 g hK dk_8_numberOf_54 (pc' := 57) rfl ?_
      refine v_iload_n g dk_8_numberOf_57 1 rfl rfl (pc' := 58) rfl ?_
      obtain ⟨hb4, hf⟩ := grd hf
      refine asC_32 g hK hb4 dk_8_numberOf_58 (pc' := 59) rfl ?_
      refine v_aload_n g dk_8_numberOf_59 0 rfl rfl (pc' := 60) rfl ?_
      refine gfC_Pairs_15 g hK dk_8_numberOf_60 (pc' := 63) rfl ?_
      refine v_aload_n g dk_8_numberOf_63 0 rfl rfl (pc' := 64) rfl ?_
      refine gfC_Pairs_25 g hK dk_8_numberOf_64 (pc' := 67) rfl ?_
      refine v_iload_n g dk_8_numberOf_67 2 rfl rfl (pc' := 68) rfl ?_
      refine asC_33 g hK hb4 dk_8_numberOf_68 (pc' := 69) rfl ?_
      refine v_aload_n g dk_8_numberOf_69 0 rfl rfl (pc' := 70) rfl ?_
      refine gfC_Pairs_18 g hK dk_8_numberOf_70 (pc' := 73) rfl ?_
      refine v_aload_n g dk_8_numberOf_73 0 rfl rfl (pc' := 74) rfl ?_
      refine gfC_Pairs_25 g hK dk_8_numberOf_74 (pc' := 77) rfl ?_
      refine v_iconst (v := 0) g dk_8_numberOf_77 (by decide) (pc' := 78) rfl ?_
      refine asC_34 g hK hb4 dk_8_numberOf_78 (pc' := 79) rfl ?_
      refine v_aload_n g dk_8_numberOf_79 0 rfl rfl (pc' := 80) rfl ?_
      refine gfC_Pairs_21 g hK dk_8_numberOf_80 (pc' := 83) rfl ?_
      refine v_aload_n g dk_8_numberOf_83 0 rfl rfl (pc' := 84) rfl ?_
      refine gfC_Pairs_25 g hK dk_8_numberOf_84 (pc' := 87) rfl ?_
      refine v_lconst (v := 0) g dk_8_numberOf_87 (by decide) (pc' := 88) rfl ?_
      refine asC_35 g hK hb4 dk_8_numberOf_88 (pc' := 89) rfl ?_
      refine v_aload_n g dk_8_numberOf_89 0 rfl rfl (pc' := 90) rfl ?_
      refine v_dup g dk_8_numberOf_90 rfl (pc' := 91) rfl ?_
      refine gfC_Pairs_25 g hK dk_8_numberOf_91 (pc' := 94) rfl ?_
      refine v_dup_x1 g dk_8_numberOf_94 rfl rfl (pc' := 95) rfl ?_
      refine v_iconst (v := 1) g dk_8_numberOf_95 (by decide) (pc' := 96) rfl ?_
      refine v_iadd g dk_8_numberOf_96 (pc' := 97) rfl ?_
      refine pfC_Pairs_25 g hK dk_8_numberOf_97 (pc' := 100) rfl ?_
      exact v_iret g hr hlk hK  (Option.some.inj hf) dk_8_numberOf_100
    · replace hf := ifF hc hf
      refine v_iconst (v := (-1)) g dk_8_numberOf_47 (by decide) (pc' := 48) rfl ?_
      exact v_iret g hr hlk hK  (Option.some.inj hf) dk_8_numberOf_48
  · subst hy
    exact Option.some.inj hf
abbrev rm_CX_pairOf : Room := { frames := 2, cells := 0, slots := 0, locals := 50 }
def m_CX_pairOf (S : StC) (x1 : Int32) (x2 : Int64) : Option (Int32 × StC) :=
  if inb x1 16 = true then (m_CX_trimmed S x2 (gA S 8 x1.toNatClampNeg)).bind fun q2 =>
    (m_CConfigurations_numberOf S q2).bind fun q3 =>
    if q3.1 = (-1) then some ((-1), q3.2)
    else (m_CPairs_numberOf q3.2 x1 q3.1).bind fun q4 =>
    some (q4.1, q4.2) else none
set_option maxHeartbeats 4000000 in
set_option maxRecDepth 100000 in
theorem c_CX_pairOf {l : Launch} {D : va_G} {ad : Nat → Nat} {ca : Nat → ClassId} {S : StC} {x1 : Int32} {x2 : Int64} {r : Int32 × StC} (hf : m_CX_pairOf S x1 x2 = some r) : KIC l D ad ca yk_0_pairOf (.code yk_0_pairOf bk_0_pairOf 5 (some .int) :: tb) rm_CX_pairOf [.ref (ad 0), .int x1, .long x2] S r := by
  refine met_i (by decide) (Nat.le_of_ble_eq_true rfl) (fun p e s m below meth c A g hr hlk hK hA => ?_)
  replace g : CallFix p m c bk_0_pairOf 5 s _ tb Rk_0 := g
  refine v_lv (lv' := [(0, .ref (ad 0)), (1, .int x1), (2, .long x2)]) rfl ?_
  unfold m_CX_pairOf at hf
  refine v_aload_n g dk_0_pairOf_0 0 rfl rfl (pc' := 1) rfl ?_
  refine gfC_X_26 g hK dk_0_pairOf_1 (pc' := 4) rfl ?_
  refine v_aload_n g dk_0_pairOf_4 0 rfl rfl (pc' := 5) rfl ?_
  refine v_lload_n g dk_0_pairOf_5 2 rfl rfl (pc' := 6) rfl ?_
  refine v_aload_n g dk_0_pairOf_6 0 rfl rfl (pc' := 7) rfl ?_
  refine gfC_X_40 g hK dk_0_pairOf_7 (pc' := 10) rfl ?_
  refine gfC_X_207 g hK dk_0_pairOf_10 (pc' := 13) rfl ?_
  refine v_iload_n g dk_0_pairOf_13 1 rfl rfl (pc' := 14) rfl ?_
  obtain ⟨hb1, hf⟩ := grd hf
  refine alC_15 g hK hb1 dk_0_pairOf_14 (pc' := 15) rfl ?_
  obtain ⟨q2, hq, hf⟩ := bnd hf
  refine v_callV_l (As := [.long x2, .int (gA S 8 x1.toNatClampNeg)]) (rest := [.ref (ad 7)]) (r := q2) (S1 := S) g hK hA (c_CX_trimmed hq) (kcC_X_153 g.2.2.2.2 rfl rfl (Nat.le_of_ble_eq_true rfl) (Nat.le_of_ble_eq_true rfl)) (ci := 0) (q0 := 0) rfl rfl rfl rfl rfl (Nat.le_of_ble_eq_true rfl) dk_0_pairOf_15 (Nat.zero_le _) (Nat.zero_le _) (pc' := 18) rfl ?_
  obtain ⟨q3, hq, hf⟩ := bnd hf
  refine v_callV_i (As := [.long q2]) (rest := []) (r := q3.1) (S1 := q3.2) g hK hA (c_CConfigurations_numberOf hq) (kcC_X_157 g.2.2.2.2 rfl rfl (Nat.le_of_ble_eq_true rfl) (Nat.le_of_ble_eq_true rfl)) (ci := 3) (q0 := 7) rfl rfl rfl rfl rfl (Nat.le_of_ble_eq_true rfl) dk_0_pairOf_18 (Nat.zero_le _) (Nat.zero_le _) (pc' := 21) rfl ?_
  refine v_istore (lv' := [(4, .int q3.1), (0, .ref (ad 0)), (1, .int x1), (2, .long x2)]) g dk_0_pairOf_21 (by decide) rfl (pc' := 23) rfl ?_
  refine v_iload g dk_0_pairOf_23 0 rfl (pc' := 25) rfl ?_
  refine v_iconst (v := (-1)) g dk_0_pairOf_25 (by decide) (pc' := 26) rfl ?_
  refine v_icmp_ne (tgt := 33) (pc' := 29) g dk_0_pairOf_26 (by decide) rfl (fun hc => ?_) (fun hc => ?_)
  · replace hf := ifF hc hf
    refine v_aload_n g dk_0_pairOf_33 1 rfl rfl (pc' := 34) rfl ?_
    refine gfC_X_61 g hK dk_0_pairOf_34 (pc' := 37) rfl ?_
    refine v_iload_n g dk_0_pairOf_37 2 rfl rfl (pc' := 38) rfl ?_
    refine v_iload g dk_0_pairOf_38 0 rfl (pc' := 40) rfl ?_
    obtain ⟨q4, hq, hf⟩ := bnd hf
    refine v_callV_i (As := [.int x1, .int q3.1]) (rest := []) (r := q4.1) (S1 := q4.2) g hK hA (c_CPairs_numberOf hq) (kcC_X_341 g.2.2.2.2 rfl rfl (Nat.le_of_ble_eq_true rfl) (Nat.le_of_ble_eq_true rfl)) (ci := 5) (q0 := 31) rfl rfl rfl rfl rfl (Nat.le_of_ble_eq_true rfl) dk_0_pairOf_40 (Nat.zero_le _) (Nat.zero_le _) (pc' := 43) rfl ?_
    exact v_iret g hr hlk hK  (Option.some.inj hf) dk_0_pairOf_43
  · replace hf := ifT hc hf
    refine v_iconst (v := (-1)) g dk_0_pairOf_29 (by decide) (pc' := 30) rfl ?_
    refine v_goto (tgt := 43) g dk_0_pairOf_30 (by decide) ?_
    exact v_iret g hr hlk hK  (Option.some.inj hf) dk_0_pairOf_43
