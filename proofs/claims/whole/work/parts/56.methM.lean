abbrev rm_MX_reads : Room := { frames := 5, cells := 0, slots := 0, locals := 116 }
def m_MX_reads (S : StM) (x1 : Int32) : Option Int32 :=
  (m_MX_in S x1 (gI S 5)).bind fun q1 =>
    if q1 = 0 then some 0
    else (m_MX_readAll S x1).bind fun q2 =>
    some q2
set_option maxHeartbeats 4000000 in
set_option maxRecDepth 100000 in
theorem c_MX_reads {l : Launch} {D : va_G} {ad : Nat → Nat} {ca : Nat → ClassId} {S : StM} {x1 : Int32} {r : Int32} (hf : m_MX_reads S x1 = some r) : KIM l D ad ca yk_1_reads (.code yk_1_reads bk_1_reads 2 (some .int) :: tb) rm_MX_reads [.ref (ad 0), .int x1] S (r, S) := by
  refine met_i (by decide) (Nat.le_of_ble_eq_true rfl) (fun p e s m below meth c A g hr hlk hK hA => ?_)
  replace g : CallFix p m c bk_1_reads 2 s _ tb Rk_1 := g
  refine v_lv (lv' := [(0, .ref (ad 0)), (1, .int x1)]) rfl ?_
  unfold m_MX_reads at hf
  refine v_iload_n g dk_1_reads_0 1 rfl rfl (pc' := 1) rfl ?_
  refine v_aload_n g dk_1_reads_1 0 rfl rfl (pc' := 2) rfl ?_
  refine gfM_X_138 g hK dk_1_reads_2 (pc' := 5) rfl ?_
  obtain ⟨q1, hq, hf⟩ := bnd hf
  refine v_callS_i (As := [.int x1, .int (gI S 5)]) (rest := []) (r := q1) (S1 := S) g hK hA (c_MX_in hq) (kcM_X_102 g.2.2.2.2 rfl rfl (Nat.le_of_ble_eq_true rfl) (Nat.le_of_ble_eq_true rfl)) rfl rfl (Nat.le_of_ble_eq_true rfl) dk_1_reads_5 (Nat.zero_le _) (Nat.zero_le _) (pc' := 8) rfl ?_
  refine v_if_eq (tgt := 19) (pc' := 11) g dk_1_reads_8 (by decide) rfl (fun hc => ?_) (fun hc => ?_)
  · replace hf := ifT hc hf
    refine v_iconst (v := 0) g dk_1_reads_19 (by decide) (pc' := 20) rfl ?_
    exact v_iret g hr hlk hK  (pinj hf) dk_1_reads_20
  · replace hf := ifF hc hf
    refine v_aload_n g dk_1_reads_11 0 rfl rfl (pc' := 12) rfl ?_
    refine v_iload_n g dk_1_reads_12 1 rfl rfl (pc' := 13) rfl ?_
    obtain ⟨q2, hq, hf⟩ := bnd hf
    refine v_callV_i (As := [.int x1]) (rest := []) (r := q2) (S1 := S) g hK hA (c_MX_readAll hq) (kcM_X_207 g.2.2.2.2 rfl rfl (Nat.le_of_ble_eq_true rfl) (Nat.le_of_ble_eq_true rfl)) (ci := 1) (q0 := 0) rfl rfl rfl rfl rfl (Nat.le_of_ble_eq_true rfl) dk_1_reads_13 (Nat.zero_le _) (Nat.zero_le _) (pc' := 16) rfl ?_
    refine v_goto (tgt := 20) g dk_1_reads_16 (by decide) ?_
    exact v_iret g hr hlk hK  (pinj hf) dk_1_reads_20
abbrev rm_MX_trimmed : Room := { frames := 5, cells := 0, slots := 0, locals := 116 }
def L_MX_trimmed_8 (x2 : Int32) : Nat → StM → Int32 → Option (StM)
  | 0, _, _ => none
  | n + 1, S, x3 =>
    if (gI S 0) ≤ x3 then some S
    else if ((x2 >>> (x3 &&& 31)) &&& (1 : Int32)) = 0 then if inb x3 16 = true then (m_MX_give S x3 (gA S 2 x3.toNatClampNeg)).bind fun q3 =>
    L_MX_trimmed_8 x2 n q3 (x3 + 1) else none
    else L_MX_trimmed_8 x2 n S (x3 + 1)
set_option maxHeartbeats 4000000 in
set_option maxRecDepth 100000 in
theorem w_MX_trimmed_8 {p : Program} {l : Launch} {e : Env} {s : State} {m : MethodId} {args : Array Value} {below : List Frame} {meth : Method} {c : Code} {A : Nat → Prop} {D : va_G} {ad : Nat → Nat} {ca : Nat → ClassId} {Rm : Int32 × StM} {x2 : Int32} (g : CallFix p m c bk_1_trimmed 4 s args tb Rk_1) (hr : meth.sig.returnType = some .int) (hlk : meth.locks = false) (hK : va_K D vwCl (tyM ca) s) (hA : ∀ q, s.heap.size ≤ q → A q) : ∀ (n : Nat) (S : StM) (x3 : Int32) (o : StM), L_MX_trimmed_8 x2 n S x3 = some o → (Vj p l e rm_MX_trimmed s m args below meth c (MQ below (qI D vwCl (tyM ca) (wdM ad ca) A Rm) args s 0 0 A) D vwCl A 4 0 0 (wdM ad ca o) 41 [(0, .ref (ad 0))] []) → Vj p l e rm_MX_trimmed s m args below meth c (MQ below (qI D vwCl (tyM ca) (wdM ad ca) A Rm) args s 0 0 A) D vwCl A 4 0 0 (wdM ad ca S) 8 [(0, .ref (ad 0)), (2, .int x2), (3, .int x3)] [] := by
  intro n
  induction n with
  | zero => intro S x3 o hf; exact nomatch (show none = some o from hf)
  | succ n ih =>
    intro S x3 o hf hx
    rw [L_MX_trimmed_8] at hf
    refine v_iload_n g dk_1_trimmed_8 2 rfl rfl (pc' := 9) rfl ?_
    refine v_aload_n g dk_1_trimmed_9 0 rfl rfl (pc' := 10) rfl ?_
    refine gfM_X_99 g hK dk_1_trimmed_10 (pc' := 13) rfl ?_
    refine v_icmp_ge (tgt := 41) (pc' := 16) g dk_1_trimmed_13 (by decide) rfl (fun hc => ?_) (fun hc => ?_)
    · replace hf := ifT hc hf
      refine v_sub [0] rfl ?_
      have e9 := Option.some.inj hf
      subst e9
      exact hx
    · replace hf := ifF hc hf
      refine v_iload_n g dk_1_trimmed_16 1 rfl rfl (pc' := 17) rfl ?_
      refine v_iload_n g dk_1_trimmed_17 2 rfl rfl (pc' := 18) rfl ?_
      refine v_ishr g dk_1_trimmed_18 (pc' := 19) rfl ?_
      refine v_iconst (v := 1) g dk_1_trimmed_19 (by decide) (pc' := 20) rfl ?_
      refine v_iand g dk_1_trimmed_20 (pc' := 21) rfl ?_
      refine v_if_ne (tgt := 35) (pc' := 24) g dk_1_trimmed_21 (by decide) rfl (fun hc => ?_) (fun hc => ?_)
      · replace hf := ifF hc hf
        refine v_iinc (j := 2) (v := x3 + 1) (lv' := [(3, .int (x3 + 1)), (0, .ref (ad 0)), (2, .int x2)]) g dk_1_trimmed_35 rfl rfl (by decide) rfl (pc' := 38) rfl ?_
        refine v_goto (tgt := 8) g dk_1_trimmed_38 (by decide) ?_
        refine v_sub [1, 2, 0] rfl ?_
        exact ih S (x3 + 1) o hf hx
      · replace hf := ifT hc hf
        refine v_aload_n g dk_1_trimmed_24 0 rfl rfl (pc' := 25) rfl ?_
        refine v_iload_n g dk_1_trimmed_25 2 rfl rfl (pc' := 26) rfl ?_
        refine v_aload_n g dk_1_trimmed_26 0 rfl rfl (pc' := 27) rfl ?_
        refine gfM_X_16 g hK dk_1_trimmed_27 (pc' := 30) rfl ?_
        refine v_iload_n g dk_1_trimmed_30 2 rfl rfl (pc' := 31) rfl ?_
        obtain ⟨hb2, hf⟩ := grd hf
        refine alM_3 g hK hb2 dk_1_trimmed_31 (pc' := 32) rfl ?_
        obtain ⟨q3, hq, hf⟩ := bnd hf
        refine v_callV_v (As := [.int x3, .int (gA S 2 x3.toNatClampNeg)]) (rest := []) (S1 := q3) g hK hA (c_MX_give hq) (kcM_X_154 g.2.2.2.2 rfl rfl (Nat.le_of_ble_eq_true rfl) (Nat.le_of_ble_eq_true rfl)) (ci := 1) (q0 := 0) rfl rfl rfl rfl rfl (Nat.le_of_ble_eq_true rfl) dk_1_trimmed_32 (Nat.zero_le _) (Nat.zero_le _) (pc' := 35) rfl ?_
        refine v_iinc (j := 2) (v := x3 + 1) (lv' := [(3, .int (x3 + 1)), (0, .ref (ad 0)), (2, .int x2)]) g dk_1_trimmed_35 rfl rfl (by decide) rfl (pc' := 38) rfl ?_
        refine v_goto (tgt := 8) g dk_1_trimmed_38 (by decide) ?_
        refine v_sub [1, 2, 0] rfl ?_
        exact ih q3 (x3 + 1) o hf hx
def m_MX_trimmed (S : StM) (x1 : Int32) : Option (Int32 × StM) :=
  (m_MX_readAll S x1).bind fun q1 =>
    (L_MX_trimmed_8 q1 100 S 0).bind fun y5 =>
    (m_MX_numbered y5).bind fun q6 =>
    some (q6.1, q6.2)
set_option maxHeartbeats 4000000 in
set_option maxRecDepth 100000 in
theorem c_MX_trimmed {l : Launch} {D : va_G} {ad : Nat → Nat} {ca : Nat → ClassId} {S : StM} {x1 : Int32} {r : Int32 × StM} (hf : m_MX_trimmed S x1 = some r) : KIM l D ad ca yk_1_trimmed (.code yk_1_trimmed bk_1_trimmed 4 (some .int) :: tb) rm_MX_trimmed [.ref (ad 0), .int x1] S r := by
  refine met_i (by decide) (Nat.le_of_ble_eq_true rfl) (fun p e s m below meth c A g hr hlk hK hA => ?_)
  replace g : CallFix p m c bk_1_trimmed 4 s _ tb Rk_1 := g
  refine v_lv (lv' := [(0, .ref (ad 0)), (1, .int x1)]) rfl ?_
  unfold m_MX_trimmed at hf
  refine v_aload_n g dk_1_trimmed_0 0 rfl rfl (pc' := 1) rfl ?_
  refine v_iload_n g dk_1_trimmed_1 1 rfl rfl (pc' := 2) rfl ?_
  obtain ⟨q1, hq, hf⟩ := bnd hf
  refine v_callV_i (As := [.int x1]) (rest := []) (r := q1) (S1 := S) g hK hA (c_MX_readAll hq) (kcM_X_207 g.2.2.2.2 rfl rfl (Nat.le_of_ble_eq_true rfl) (Nat.le_of_ble_eq_true rfl)) (ci := 1) (q0 := 0) rfl rfl rfl rfl rfl (Nat.le_of_ble_eq_true rfl) dk_1_trimmed_2 (Nat.zero_le _) (Nat.zero_le _) (pc' := 5) rfl ?_
  refine v_istore_n (lv' := [(2, .int q1), (0, .ref (ad 0)), (1, .int x1)]) g dk_1_trimmed_5 rfl (by decide) rfl (pc' := 6) rfl ?_
  refine v_iconst (v := 0) g dk_1_trimmed_6 (by decide) (pc' := 7) rfl ?_
  refine v_istore_n (lv' := [(3, .int 0), (2, .int q1), (0, .ref (ad 0)), (1, .int x1)]) g dk_1_trimmed_7 rfl (by decide) rfl (pc' := 8) rfl ?_
  refine v_sub [2, 1, 0] rfl ?_
  obtain ⟨y5, hL, hf⟩ := bnd hf
  refine w_MX_trimmed_8 g hr hlk hK hA 100 S 0 _ hL ?_
  refine v_aload_n g dk_1_trimmed_41 0 rfl rfl (pc' := 42) rfl ?_
  obtain ⟨q6, hq, hf⟩ := bnd hf
  refine v_callV_i (As := []) (rest := []) (r := q6.1) (S1 := q6.2) g hK hA (c_MX_numbered hq) (kcM_X_157 g.2.2.2.2 rfl rfl (Nat.le_of_ble_eq_true rfl) (Nat.le_of_ble_eq_true rfl)) (ci := 1) (q0 := 0) rfl rfl rfl rfl rfl (Nat.le_of_ble_eq_true rfl) dk_1_trimmed_42 (Nat.zero_le _) (Nat.zero_le _) (pc' := 45) rfl ?_
  exact v_iret g hr hlk hK  (Option.some.inj hf) dk_1_trimmed_45
abbrev rm_MX_trim : Room := { frames := 6, cells := 0, slots := 0, locals := 139 }
def m_MX_trim (S : StM) (x1 : Int32) (x2 : Int32) : Option (Int32 × StM) :=
  (m_MX_in S x1 (gI S 5)).bind fun q1 =>
    if q1 = 0 then some ((-1), S)
    else (m_MX_in S x2 (gI S 2)).bind fun q2 =>
    if q2 = 0 then some ((-1), S)
    else (m_MX_copy S x2 60).bind fun q3 =>
    (m_MX_trimmed q3 x1).bind fun q4 =>
    some (q4.1, q4.2)
set_option maxHeartbeats 4000000 in
set_option maxRecDepth 100000 in
theorem c_MX_trim {l : Launch} {D : va_G} {ad : Nat → Nat} {ca : Nat → ClassId} {S : StM} {x1 : Int32} {x2 : Int32} {r : Int32 × StM} (hf : m_MX_trim S x1 x2 = some r) : KIM l D ad ca yk_1_trim (.code yk_1_trim bk_1_trim 3 (some .int) :: tb) rm_MX_trim [.ref (ad 0), .int x1, .int x2] S r := by
  refine met_i (by decide) (Nat.le_of_ble_eq_true rfl) (fun p e s m below meth c A g hr hlk hK hA => ?_)
  replace g : CallFix p m c bk_1_trim 3 s _ tb Rk_1 := g
  refine v_lv (lv' := [(0, .ref (ad 0)), (1, .int x1), (2, .int x2)]) rfl ?_
  unfold m_MX_trim at hf
  refine v_iload_n g dk_1_trim_0 1 rfl rfl (pc' := 1) rfl ?_
  refine v_aload_n g dk_1_trim_1 0 rfl rfl (pc' := 2) rfl ?_
  refine gfM_X_138 g hK dk_1_trim_2 (pc' := 5) rfl ?_
  obtain ⟨q1, hq, hf⟩ := bnd hf
  refine v_callS_i (As := [.int x1, .int (gI S 5)]) (rest := []) (r := q1) (S1 := S) g hK hA (c_MX_in hq) (kcM_X_102 g.2.2.2.2 rfl rfl (Nat.le_of_ble_eq_true rfl) (Nat.le_of_ble_eq_true rfl)) rfl rfl (Nat.le_of_ble_eq_true rfl) dk_1_trim_5 (Nat.zero_le _) (Nat.zero_le _) (pc' := 8) rfl ?_
  refine v_if_eq (tgt := 22) (pc' := 11) g dk_1_trim_8 (by decide) rfl (fun hc => ?_) (fun hc => ?_)
  · replace hf := ifT hc hf
    refine v_iconst (v := (-1)) g dk_1_trim_22 (by decide) (pc' := 23) rfl ?_
    exact v_iret g hr hlk hK  (Option.some.inj hf) dk_1_trim_23
  · replace hf := ifF hc hf
    refine v_iload_n g dk_1_trim_11 2 rfl rfl (pc' := 12) rfl ?_
    refine v_aload_n g dk_1_trim_12 0 rfl rfl (pc' := 13) rfl ?_
    refine gfM_X_113 g hK dk_1_trim_13 (pc' := 16) rfl ?_
    obtain ⟨q2, hq, hf⟩ := bnd hf
    refine v_callS_i (As := [.int x2, .int (gI S 2)]) (rest := []) (r := q2) (S1 := S) g hK hA (c_MX_in hq) (kcM_X_102 g.2.2.2.2 rfl rfl (Nat.le_of_ble_eq_true rfl) (Nat.le_of_ble_eq_true rfl)) rfl rfl (Nat.le_of_ble_eq_true rfl) dk_1_trim_16 (Nat.zero_le _) (Nat.zero_le _) (pc' := 19) rfl ?_
    refine v_if_ne (tgt := 24) (pc' := 22) g dk_1_trim_19 (by decide) rfl (fun hc => ?_) (fun hc => ?_)
    · replace hf := ifF hc hf
      refine v_aload_n g dk_1_trim_24 0 rfl rfl (pc' := 25) rfl ?_
      refine v_iload_n g dk_1_trim_25 2 rfl rfl (pc' := 26) rfl ?_
      refine v_bipush (v := 60) g dk_1_trim_26 (by decide) (pc' := 28) rfl ?_
      obtain ⟨q3, hq, hf⟩ := bnd hf
      refine v_callV_v (As := [.int x2, .int 60]) (rest := []) (S1 := q3) g hK hA (c_MX_copy hq) (kcM_X_150 g.2.2.2.2 rfl rfl (Nat.le_of_ble_eq_true rfl) (Nat.le_of_ble_eq_true rfl)) (ci := 1) (q0 := 0) rfl rfl rfl rfl rfl (Nat.le_of_ble_eq_true rfl) dk_1_trim_28 (Nat.zero_le _) (Nat.zero_le _) (pc' := 31) rfl ?_
      refine v_aload_n g dk_1_trim_31 0 rfl rfl (pc' := 32) rfl ?_
      refine v_iload_n g dk_1_trim_32 1 rfl rfl (pc' := 33) rfl ?_
      obtain ⟨q4, hq, hf⟩ := bnd hf
      refine v_callV_i (As := [.int x1]) (rest := []) (r := q4.1) (S1 := q4.2) g hK hA (c_MX_trimmed hq) (kcM_X_210 g.2.2.2.2 rfl rfl (Nat.le_of_ble_eq_true rfl) (Nat.le_of_ble_eq_true rfl)) (ci := 1) (q0 := 0) rfl rfl rfl rfl rfl (Nat.le_of_ble_eq_true rfl) dk_1_trim_33 (Nat.zero_le _) (Nat.zero_le _) (pc' := 36) rfl ?_
      exact v_iret g hr hlk hK  (Option.some.inj hf) dk_1_trim_36
    · replace hf := ifT hc hf
      refine v_iconst (v := (-1)) g dk_1_trim_22 (by decide) (pc' := 23) rfl ?_
      exact v_iret g hr hlk hK  (Option.some.inj hf) dk_1_trim_23
abbrev rm_MX_pairOf : Room := { frames := 6, cells := 0, slots := 0, locals := 139 }
def L_MX_pairOf_15 (S : StM) (x1 : Int32) (x2 : Int32) : Nat → Int32 → Option (Unit ⊕ (Int32 × StM))
  | 0, _ => none
  | n + 1, x3 =>
    if (gI S 15) ≤ x3 then some (.inl ())
    else if inb x3 61 = true then if (gA S 24 x3.toNatClampNeg) = x1 then if (gA S 25 x3.toNatClampNeg) = x2 then some (.inr (x3, S))
    else L_MX_pairOf_15 S x1 x2 n (x3 + 1)
    else L_MX_pairOf_15 S x1 x2 n (x3 + 1) else none
set_option maxHeartbeats 4000000 in
set_option maxRecDepth 100000 in
theorem w_MX_pairOf_15 {p : Program} {l : Launch} {e : Env} {s : State} {m : MethodId} {args : Array Value} {below : List Frame} {meth : Method} {c : Code} {A : Nat → Prop} {D : va_G} {ad : Nat → Nat} {ca : Nat → ClassId} {Rm : Int32 × StM} {S : StM} {x1 : Int32} {x2 : Int32} (g : CallFix p m c bk_1_pairOf 4 s args tb Rk_1) (hr : meth.sig.returnType = some .int) (hlk : meth.locks = false) (hK : va_K D vwCl (tyM ca) s) (hA : ∀ q, s.heap.size ≤ q → A q) : ∀ (n : Nat) (x3 : Int32) (o : Unit ⊕ (Int32 × StM)), L_MX_pairOf_15 S x1 x2 n x3 = some o → (∀ y, o = .inl y → Vj p l e rm_MX_pairOf s m args below meth c (MQ below (qI D vwCl (tyM ca) (wdM ad ca) A Rm) args s 0 0 A) D vwCl A 4 0 0 (wdM ad ca S) 51 [(0, .ref (ad 0)), (1, .int x1), (2, .int x2)] []) → (∀ r, o = .inr r → r = Rm) → Vj p l e rm_MX_pairOf s m args below meth c (MQ below (qI D vwCl (tyM ca) (wdM ad ca) A Rm) args s 0 0 A) D vwCl A 4 0 0 (wdM ad ca S) 15 [(0, .ref (ad 0)), (1, .int x1), (2, .int x2), (3, .int x3)] [] := by
  intro n
  induction n with
  | zero => intro x3 o hf; exact nomatch (show none = some o from hf)
  | succ n ih =>
    intro x3 o hf hx hret
    rw [L_MX_pairOf_15] at hf
    refine v_iload_n g dk_1_pairOf_15 3 rfl rfl (pc' := 16) rfl ?_
    refine v_aload_n g dk_1_pairOf_16 0 rfl rfl (pc' := 17) rfl ?_
    refine gfM_X_213 g hK dk_1_pairOf_17 (pc' := 20) rfl ?_
    refine v_icmp_ge (tgt := 51) (pc' := 23) g dk_1_pairOf_20 (by decide) rfl (fun hc => ?_) (fun hc => ?_)
    · replace hf := ifT hc hf
      refine v_sub [0, 1, 2] rfl ?_
      exact hx _ (Option.some.inj hf).symm
    · replace hf := ifF hc hf
      refine v_aload_n g dk_1_pairOf_23 0 rfl rfl (pc' := 24) rfl ?_
      refine gfM_X_87 g hK dk_1_pairOf_24 (pc' := 27) rfl ?_
      refine v_iload_n g dk_1_pairOf_27 3 rfl rfl (pc' := 28) rfl ?_
      obtain ⟨hb2, hf⟩ := grd hf
      refine alM_25 g hK hb2 dk_1_pairOf_28 (pc' := 29) rfl ?_
      refine v_iload_n g dk_1_pairOf_29 1 rfl rfl (pc' := 30) rfl ?_
      refine v_icmp_ne (tgt := 45) (pc' := 33) g dk_1_pairOf_30 (by decide) rfl (fun hc => ?_) (fun hc => ?_)
      · replace hf := ifF hc hf
        refine v_iinc (j := 3) (v := x3 + 1) (lv' := [(3, .int (x3 + 1)), (0, .ref (ad 0)), (1, .int x1), (2, .int x2)]) g dk_1_pairOf_45 rfl rfl (by decide) rfl (pc' := 48) rfl ?_
        refine v_goto (tgt := 15) g dk_1_pairOf_48 (by decide) ?_
        refine v_sub [1, 2, 3, 0] rfl ?_
        exact ih (x3 + 1) o hf hx hret
      · replace hf := ifT hc hf
        refine v_aload_n g dk_1_pairOf_33 0 rfl rfl (pc' := 34) rfl ?_
        refine gfM_X_90 g hK dk_1_pairOf_34 (pc' := 37) rfl ?_
        refine v_iload_n g dk_1_pairOf_37 3 rfl rfl (pc' := 38) rfl ?_
        refine alM_26 g hK hb2 dk_1_pairOf_38 (pc' := 39) rfl ?_
        refine v_iload_n g dk_1_pairOf_39 2 rfl rfl (pc' := 40) rfl ?_
        refine v_icmp_ne (tgt := 45) (pc' := 43) g dk_1_pairOf_40 (by decide) rfl (fun hc => ?_) (fun hc => ?_)
        · replace hf := ifF hc hf
          refine v_iinc (j := 3) (v := x3 + 1) (lv' := [(3, .int (x3 + 1)), (0, .ref (ad 0)), (1, .int x1), (2, .int x2)]) g dk_1_pairOf_45 rfl rfl (by decide) rfl (pc' := 48) rfl ?_
          refine v_goto (tgt := 15) g dk_1_pairOf_48 (by decide) ?_
          refine v_sub [1, 2, 3, 0] rfl ?_
          exact ih (x3 + 1) o hf hx hret
        · replace hf := ifT hc hf
          refine v_iload_n g dk_1_pairOf_43 3 rfl rfl (pc' := 44) rfl ?_
          exact v_iret g hr hlk hK  (hret _ (Option.some.inj hf).symm) dk_1_pairOf_44
def L_MX_pairOf_122 : Nat → StM → Int32 → Option (StM)
  | 0, _, _ => none
  | n + 1, S, x3 =>
    if (gI S 15) < x3 then some S
    else if inb (((60 : Int32) * x3) + (gI S 15)) 3721 = true then if inb (((60 : Int32) * (gI S 15)) + x3) 3721 = true then L_MX_pairOf_122 n (tA (tA S 27 (((60 : Int32) * x3) + (gI S 15)) (vp_nar .boolean 0)) 27 (((60 : Int32) * (gI S 15)) + x3) (vp_nar .boolean 0)) (x3 + 1) else none else none
set_option maxHeartbeats 4000000 in
set_option maxRecDepth 100000 in
theorem w_MX_pairOf_122 {p : Program} {l : Launch} {e : Env} {s : State} {m : MethodId} {args : Array Value} {below : List Frame} {meth : Method} {c : Code} {A : Nat → Prop} {D : va_G} {ad : Nat → Nat} {ca : Nat → ClassId} {Rm : Int32 × StM} (g : CallFix p m c bk_1_pairOf 4 s args tb Rk_1) (hr : meth.sig.returnType = some .int) (hlk : meth.locks = false) (hK : va_K D vwCl (tyM ca) s) (hA : ∀ q, s.heap.size ≤ q → A q) : ∀ (n : Nat) (S : StM) (x3 : Int32) (o : StM), L_MX_pairOf_122 n S x3 = some o → (Vj p l e rm_MX_pairOf s m args below meth c (MQ below (qI D vwCl (tyM ca) (wdM ad ca) A Rm) args s 0 0 A) D vwCl A 4 0 0 (wdM ad ca o) 166 [(0, .ref (ad 0))] []) → Vj p l e rm_MX_pairOf s m args below meth c (MQ below (qI D vwCl (tyM ca) (wdM ad ca) A Rm) args s 0 0 A) D vwCl A 4 0 0 (wdM ad ca S) 122 [(0, .ref (ad 0)), (3, .int x3)] [] := by
  intro n
  induction n with
  | zero => intro S x3 o hf; exact nomatch (show none = some o from hf)
  | succ n ih =>
    intro S x3 o hf hx
    rw [L_MX_pairOf_122] at hf
    refine v_iload_n g dk_1_pairOf_122 1 rfl rfl (pc' := 123) rfl ?_
    refine v_aload_n g dk_1_pairOf_123 0 rfl rfl (pc' := 124) rfl ?_
    refine gfM_X_213 g hK dk_1_pairOf_124 (pc' := 127) rfl ?_
    refine v_icmp_gt (tgt := 166) (pc' := 130) g dk_1_pairOf_127 (by decide) rfl (fun hc => ?_) (fun hc => ?_)
    · replace hf := ifT hc hf
      refine v_sub [0] rfl ?_
      have e9 := Option.some.inj hf
      subst e9
      exact hx
    · replace hf := ifF hc hf
      refine v_aload_n g dk_1_pairOf_130 0 rfl rfl (pc' := 131) rfl ?_
      refine gfM_X_96 g hK dk_1_pairOf_131 (pc' := 134) rfl ?_
      refine v_bipush (v := 60) g dk_1_pairOf_134 (by decide) (pc' := 136) rfl ?_
      refine v_iload_n g dk_1_pairOf_136 1 rfl rfl (pc' := 137) rfl ?_
      refine v_imul g dk_1_pairOf_137 (pc' := 138) rfl ?_
      refine v_aload_n g dk_1_pairOf_138 0 rfl rfl (pc' := 139) rfl ?_
      refine gfM_X_213 g hK dk_1_pairOf_139 (pc' := 142) rfl ?_
      refine v_iadd g dk_1_pairOf_142 (pc' := 143) rfl ?_
      refine v_iconst (v := 0) g dk_1_pairOf_143 (by decide) (pc' := 144) rfl ?_
      obtain ⟨hb7, hf⟩ := grd hf
      refine asM_28 g hK hb7 dk_1_pairOf_144 (pc' := 145) rfl ?_
      refine v_aload_n g dk_1_pairOf_145 0 rfl rfl (pc' := 146) rfl ?_
      refine gfM_X_96 g hK dk_1_pairOf_146 (pc' := 149) rfl ?_
      refine v_bipush (v := 60) g dk_1_pairOf_149 (by decide) (pc' := 151) rfl ?_
      refine v_aload_n g dk_1_pairOf_151 0 rfl rfl (pc' := 152) rfl ?_
      refine gfM_X_213 g hK dk_1_pairOf_152 (pc' := 155) rfl ?_
      refine v_imul g dk_1_pairOf_155 (pc' := 156) rfl ?_
      refine v_iload_n g dk_1_pairOf_156 1 rfl rfl (pc' := 157) rfl ?_
      refine v_iadd g dk_1_pairOf_157 (pc' := 158) rfl ?_
      refine v_iconst (v := 0) g dk_1_pairOf_158 (by decide) (pc' := 159) rfl ?_
      obtain ⟨hb8, hf⟩ := grd hf
      refine asM_28 g hK hb8 dk_1_pairOf_159 (pc' := 160) rfl ?_
      refine v_iinc (j := 1) (v := x3 + 1) (lv' := [(3, .int (x3 + 1)), (0, .ref (ad 0))]) g dk_1_pairOf_160 rfl rfl (by decide) rfl (pc' := 163) rfl ?_
      refine v_goto (tgt := 122) g dk_1_pairOf_163 (by decide) ?_
      refine v_sub [1, 0] rfl ?_
      exact ih (tA (tA S 27 (((60 : Int32) * x3) + (gI S 15)) (vp_nar .boolean 0)) 27 (((60 : Int32) * (gI S 15)) + x3) (vp_nar .boolean 0)) (x3 + 1) o hf hx
def m_MX_pairOf (S : StM) (x1 : Int32) : Option (Int32 × StM) :=
  (m_MX_trimmed S x1).bind fun q1 =>
    if q1.1 = (-1) then some ((-1), q1.2)
    else (L_MX_pairOf_15 q1.2 x1 q1.1 100 0).bind fun o3 => exK o3 fun y4 =>
    if (gI q1.2 15) = 60 then some ((-1), q1.2)
    else if inb (gI q1.2 15) 61 = true then if inb x1 16 = true then if (gA q1.2 17 x1.toNatClampNeg) = (-1) then (L_MX_pairOf_122 100 (tA (tA (tA q1.2 24 (gI q1.2 15) x1) 25 (gI q1.2 15) q1.1) 26 (gI q1.2 15) 0) 0).bind fun y10 =>
    some (((gI y10 15) + (1 : Int32)) - (1 : Int32), sI y10 15 ((gI y10 15) + (1 : Int32)))
    else (m_MX_isHolding (tA (tA q1.2 24 (gI q1.2 15) x1) 25 (gI q1.2 15) q1.1) (gA q1.2 17 x1.toNatClampNeg) q1.1).bind fun q11 =>
    if q11 = 0 then (L_MX_pairOf_122 100 (tA (tA (tA q1.2 24 (gI q1.2 15) x1) 25 (gI q1.2 15) q1.1) 26 (gI q1.2 15) 1) 0).bind fun y15 =>
    some (((gI y15 15) + (1 : Int32)) - (1 : Int32), sI y15 15 ((gI y15 15) + (1 : Int32)))
    else (L_MX_pairOf_122 100 (tA (tA (tA q1.2 24 (gI q1.2 15) x1) 25 (gI q1.2 15) q1.1) 26 (gI q1.2 15) 0) 0).bind fun y13 =>
    some (((gI y13 15) + (1 : Int32)) - (1 : Int32), sI y13 15 ((gI y13 15) + (1 : Int32))) else none else none
set_option maxHeartbeats 4000000 in
set_option maxRecDepth 100000 in
theorem c_MX_pairOf {l : Launch} {D : va_G} {ad : Nat → Nat} {ca : Nat → ClassId} {S : StM} {x1 : Int32} {r : Int32 × StM} (hf : m_MX_pairOf S x1 = some r) : KIM l D ad ca yk_1_pairOf (.code yk_1_pairOf bk_1_pairOf 4 (some .int) :: tb) rm_MX_pairOf [.ref (ad 0), .int x1] S r := by
  refine met_i (by decide) (Nat.le_of_ble_eq_true rfl) (fun p e s m below meth c A g hr hlk hK hA => ?_)
  replace g : CallFix p m c bk_1_pairOf 4 s _ tb Rk_1 := g
  refine v_lv (lv' := [(0, .ref (ad 0)), (1, .int x1)]) rfl ?_
  unfold m_MX_pairOf at hf
  refine v_aload_n g dk_1_pairOf_0 0 rfl rfl (pc' := 1) rfl ?_
  refine v_iload_n g dk_1_pairOf_1 1 rfl rfl (pc' := 2) rfl ?_
  obtain ⟨q1, hq, hf⟩ := bnd hf
  refine v_callV_i (As := [.int x1]) (rest := []) (r := q1.1) (S1 := q1.2) g hK hA (c_MX_trimmed hq) (kcM_X_210 g.2.2.2.2 rfl rfl (Nat.le_of_ble_eq_true rfl) (Nat.le_of_ble_eq_true rfl)) (ci := 1) (q0 := 0) rfl rfl rfl rfl rfl (Nat.le_of_ble_eq_true rfl) dk_1_pairOf_2 (Nat.zero_le _) (Nat.zero_le _) (pc' := 5) rfl ?_
  refine v_istore_n (lv' := [(2, .int q1.1), (0, .ref (ad 0)), (1, .int x1)]) g dk_1_pairOf_5 rfl (by decide) rfl (pc' := 6) rfl ?_
  refine v_iload_n g dk_1_pairOf_6 0 rfl rfl (pc' := 7) rfl ?_
  refine v_iconst (v := (-1)) g dk_1_pairOf_7 (by decide) (pc' := 8) rfl ?_
  refine v_icmp_ne (tgt := 13) (pc' := 11) g dk_1_pairOf_8 (by decide) rfl (fun hc => ?_) (fun hc => ?_)
  · replace hf := ifF hc hf
    refine v_iconst (v := 0) g dk_1_pairOf_13 (by decide) (pc' := 14) rfl ?_
    refine v_istore_n (lv' := [(3, .int 0), (2, .int q1.1), (0, .ref (ad 0)), (1, .int x1)]) g dk_1_pairOf_14 rfl (by decide) rfl (pc' := 15) rfl ?_
    refine v_sub [2, 3, 1, 0] rfl ?_
    obtain ⟨o3, hL, hf⟩ := bnd hf
    refine w_MX_pairOf_15 g hr hlk hK hA 100 0 _ hL (fun y4 hy => ?_) (fun r9 hy => ?_)
    · subst hy
      replace hf := exKl hf
      refine v_aload_n g dk_1_pairOf_51 0 rfl rfl (pc' := 52) rfl ?_
      refine gfM_X_213 g hK dk_1_pairOf_52 (pc' := 55) rfl ?_
      refine v_bipush (v := 60) g dk_1_pairOf_55 (by decide) (pc' := 57) rfl ?_
      refine v_icmp_ne (tgt := 62) (pc' := 60) g dk_1_pairOf_57 (by decide) rfl (fun hc => ?_) (fun hc => ?_)
      · replace hf := ifF hc hf
        refine v_aload_n g dk_1_pairOf_62 0 rfl rfl (pc' := 63) rfl ?_
        refine gfM_X_87 g hK dk_1_pairOf_63 (pc' := 66) rfl ?_
        refine v_aload_n g dk_1_pairOf_66 0 rfl rfl (pc' := 67) rfl ?_
        refine gfM_X_213 g hK dk_1_pairOf_67 (pc' := 70) rfl ?_
        refine v_iload_n g dk_1_pairOf_70 1 rfl rfl (pc' := 71) rfl ?_
        obtain ⟨hb5, hf⟩ := grd hf
        refine asM_25 g hK hb5 dk_1_pairOf_71 (pc' := 72) rfl ?_
        refine v_aload_n g dk_1_pairOf_72 0 rfl rfl (pc' := 73) rfl ?_
        refine gfM_X_90 g hK dk_1_pairOf_73 (pc' := 76) rfl ?_
        refine v_aload_n g dk_1_pairOf_76 0 rfl rfl (pc' := 77) rfl ?_
        refine gfM_X_213 g hK dk_1_pairOf_77 (pc' := 80) rfl ?_
        refine v_iload_n g dk_1_pairOf_80 2 rfl rfl (pc' := 81) rfl ?_
        refine asM_26 g hK hb5 dk_1_pairOf_81 (pc' := 82) rfl ?_
        refine v_aload_n g dk_1_pairOf_82 0 rfl rfl (pc' := 83) rfl ?_
        refine gfM_X_93 g hK dk_1_pairOf_83 (pc' := 86) rfl ?_
        refine v_aload_n g dk_1_pairOf_86 0 rfl rfl (pc' := 87) rfl ?_
        refine gfM_X_213 g hK dk_1_pairOf_87 (pc' := 90) rfl ?_
        refine v_aload_n g dk_1_pairOf_90 0 rfl rfl (pc' := 91) rfl ?_
        refine gfM_X_62 g hK dk_1_pairOf_91 (pc' := 94) rfl ?_
        refine v_iload_n g dk_1_pairOf_94 1 rfl rfl (pc' := 95) rfl ?_
        obtain ⟨hb6, hf⟩ := grd hf
        refine alM_18 g hK hb6 dk_1_pairOf_95 (pc' := 96) rfl ?_
        refine v_iconst (v := (-1)) g dk_1_pairOf_96 (by decide) (pc' := 97) rfl ?_
        refine v_icmp_eq (tgt := 118) (pc' := 100) g dk_1_pairOf_97 (by decide) rfl (fun hc => ?_) (fun hc => ?_)
        · replace hf := ifT hc hf
          refine v_iconst (v := 0) g dk_1_pairOf_118 (by decide) (pc' := 119) rfl ?_
          refine asM_27 g hK hb5 dk_1_pairOf_119 (pc' := 120) rfl ?_
          refine v_iconst (v := 0) g dk_1_pairOf_120 (by decide) (pc' := 121) rfl ?_
          refine v_istore_n (lv' := [(3, .int 0), (0, .ref (ad 0)), (1, .int x1), (2, .int q1.1)]) g dk_1_pairOf_121 rfl (by decide) rfl (pc' := 122) rfl ?_
          refine v_sub [1, 0] rfl ?_
          obtain ⟨y10, hL, hf⟩ := bnd hf
          refine w_MX_pairOf_122 g hr hlk hK hA 100 (tA (tA (tA q1.2 24 (gI q1.2 15) x1) 25 (gI q1.2 15) q1.1) 26 (gI q1.2 15) 0) 0 _ hL ?_
          refine v_aload_n g dk_1_pairOf_166 0 rfl rfl (pc' := 167) rfl ?_
          refine v_dup g dk_1_pairOf_167 rfl (pc' := 168) rfl ?_
          refine gfM_X_213 g hK dk_1_pairOf_168 (pc' := 171) rfl ?_
          refine v_iconst (v := 1) g dk_1_pairOf_171 (by decide) (pc' := 172) rfl ?_
          refine v_iadd g dk_1_pairOf_172 (pc' := 173) rfl ?_
          refine pfM_X_213 g hK dk_1_pairOf_173 (pc' := 176) rfl ?_
          refine v_aload_n g dk_1_pairOf_176 0 rfl rfl (pc' := 177) rfl ?_
          refine gfM_X_213 g hK dk_1_pairOf_177 (pc' := 180) rfl ?_
          refine v_iconst (v := 1) g dk_1_pairOf_180 (by decide) (pc' := 181) rfl ?_
          refine v_isub g dk_1_pairOf_181 (pc' := 182) rfl ?_
          exact v_iret g hr hlk hK  (Option.some.inj hf) dk_1_pairOf_182
        · replace hf := ifF hc hf
          refine v_aload_n g dk_1_pairOf_100 0 rfl rfl (pc' := 101) rfl ?_
          refine v_aload_n g dk_1_pairOf_101 0 rfl rfl (pc' := 102) rfl ?_
          refine gfM_X_62 g hK dk_1_pairOf_102 (pc' := 105) rfl ?_
          refine v_iload_n g dk_1_pairOf_105 1 rfl rfl (pc' := 106) rfl ?_
          refine alM_18 g hK hb6 dk_1_pairOf_106 (pc' := 107) rfl ?_
          refine v_iload_n g dk_1_pairOf_107 2 rfl rfl (pc' := 108) rfl ?_
          obtain ⟨q11, hq, hf⟩ := bnd hf
          refine v_callV_i (As := [.int (gA q1.2 17 x1.toNatClampNeg), .int q1.1]) (rest := [.int (gI q1.2 15), .ref (ad 27)]) (r := q11) (S1 := tA (tA q1.2 24 (gI q1.2 15) x1) 25 (gI q1.2 15) q1.1) g hK hA (c_MX_isHolding hq) (kcM_X_129 g.2.2.2.2 rfl rfl (Nat.le_of_ble_eq_true rfl) (Nat.le_of_ble_eq_true rfl)) (ci := 1) (q0 := 0) rfl rfl rfl rfl rfl (Nat.le_of_ble_eq_true rfl) dk_1_pairOf_108 (Nat.zero_le _) (Nat.zero_le _) (pc' := 111) rfl ?_
          refine v_if_ne (tgt := 118) (pc' := 114) g dk_1_pairOf_111 (by decide) rfl (fun hc => ?_) (fun hc => ?_)
          · replace hf := ifF hc hf
            refine v_iconst (v := 0) g dk_1_pairOf_118 (by decide) (pc' := 119) rfl ?_
            refine asM_27 g hK hb5 dk_1_pairOf_119 (pc' := 120) rfl ?_
            refine v_iconst (v := 0) g dk_1_pairOf_120 (by decide) (pc' := 121) rfl ?_
            refine v_istore_n (lv' := [(3, .int 0), (0, .ref (ad 0)), (1, .int x1), (2, .int q1.1)]) g dk_1_pairOf_121 rfl (by decide) rfl (pc' := 122) rfl ?_
            refine v_sub [1, 0] rfl ?_
            obtain ⟨y13, hL, hf⟩ := bnd hf
            refine w_MX_pairOf_122 g hr hlk hK hA 100 (tA (tA (tA q1.2 24 (gI q1.2 15) x1) 25 (gI q1.2 15) q1.1) 26 (gI q1.2 15) 0) 0 _ hL ?_
            refine v_aload_n g dk_1_pairOf_166 0 rfl rfl (pc' := 167) rfl ?_
            refine v_dup g dk_1_pairOf_167 rfl (pc' := 168) rfl ?_
            refine gfM_X_213 g hK dk_1_pairOf_168 (pc' := 171) rfl ?_
            refine v_iconst (v := 1) g dk_1_pairOf_171 (by decide) (pc' := 172) rfl ?_
            refine v_iadd g dk_1_pairOf_172 (pc' := 173) rfl ?_
            refine pfM_X_213 g hK dk_1_pairOf_173 (pc' := 176) rfl ?_
            refine v_aload_n g dk_1_pairOf_176 0 rfl rfl (pc' := 177) rfl ?_
            refine gfM_X_213 g hK dk_1_pairOf_177 (pc' := 180) rfl ?_
            refine v_iconst (v := 1) g dk_1_pairOf_180 (by decide) (pc' := 181) rfl ?_
            refine v_isub g dk_1_pairOf_181 (pc' := 182) rfl ?_
            exact v_iret g hr hlk hK  (Option.some.inj hf) dk_1_pairOf_182
          · replace hf := ifT hc hf
            refine v_iconst (v := 1) g dk_1_pairOf_114 (by decide) (pc' := 115) rfl ?_
            refine v_goto (tgt := 119) g dk_1_pairOf_115 (by decide) ?_
            refine asM_27 g hK hb5 dk_1_pairOf_119 (pc' := 120) rfl ?_
            refine v_iconst (v := 0) g dk_1_pairOf_120 (by decide) (pc' := 121) rfl ?_
            refine v_istore_n (lv' := [(3, .int 0), (0, .ref (ad 0)), (1, .int x1), (2, .int q1.1)]) g dk_1_pairOf_121 rfl (by decide) rfl (pc' := 122) rfl ?_
            refine v_sub [1, 0] rfl ?_
            obtain ⟨y15, hL, hf⟩ := bnd hf
            refine w_MX_pairOf_122 g hr hlk hK hA 100 (tA (tA (tA q1.2 24 (gI q1.2 15) x1) 25 (gI q1.2 15) q1.1) 26 (gI q1.2 15) 1) 0 _ hL ?_
            refine v_aload_n g dk_1_pairOf_166 0 rfl rfl (pc' := 167) rfl ?_
            refine v_dup g dk_1_pairOf_167 rfl (pc' := 168) rfl ?_
            refine gfM_X_213 g hK dk_1_pairOf_168 (pc' := 171) rfl ?_
            refine v_iconst (v := 1) g dk_1_pairOf_171 (by decide) (pc' := 172) rfl ?_
            refine v_iadd g dk_1_pairOf_172 (pc' := 173) rfl ?_
            refine pfM_X_213 g hK dk_1_pairOf_173 (pc' := 176) rfl ?_
            refine v_aload_n g dk_1_pairOf_176 0 rfl rfl (pc' := 177) rfl ?_
            refine gfM_X_213 g hK dk_1_pairOf_177 (pc' := 180) rfl ?_
            refine v_iconst (v := 1) g dk_1_pairOf_180 (by decide) (pc' := 181) rfl ?_
            refine v_isub g dk_1_pairOf_181 (pc' := 182) rfl ?_
            exact v_iret g hr hlk hK  (Option.some.inj hf) dk_1_pairOf_182
      · replace hf := ifT hc hf
        refine v_iconst (v := (-1)) g dk_1_pairOf_60 (by decide) (pc' := 61) rfl ?_
        exact v_iret g hr hlk hK  (Option.some.inj hf) dk_1_pairOf_61
    · subst hy
      exact Option.some.inj hf
  · replace hf := ifT hc hf
    refine v_iconst (v := (-1)) g dk_1_pairOf_11 (by decide) (pc' := 12) rfl ?_
    exact v_iret g hr hlk hK  (Option.some.inj hf) dk_1_pairOf_12
abbrev rm_MX_isTurn : Room := { frames := 2, cells := 0, slots := 0, locals := 44 }
def m_MX_isTurn (S : StM) (x1 : Int32) (x2 : Int32) (x3 : Int32) : Option Int32 :=
  if inb x1 40 = true then if (gA S 21 x1.toNatClampNeg) ≤ x2 then if ((-1) : Int32) = (-1) then if x3 = 0 then some 1
    else some 0
    else if inb (-1) 16 = true then if (gA S 1 ((-1) : Int32).toNatClampNeg) ≤ x3 then some 0
    else if inb (((2 : Int32) * x1) + x2) 80 = true then if (((gA S 23 (((2 : Int32) * x1) + x2).toNatClampNeg) >>> (x3 &&& 31)) &&& (1 : Int32)) = 1 then some 1
    else some 0 else none else none
    else if inb (((2 : Int32) * x1) + x2) 80 = true then (m_MX_baseOf S (gA S 22 (((2 : Int32) * x1) + x2).toNatClampNeg)).bind fun q5 =>
    if q5 = (-1) then if x3 = 0 then some 1
    else some 0
    else if inb q5 16 = true then if (gA S 1 q5.toNatClampNeg) ≤ x3 then some 0
    else if (((gA S 23 (((2 : Int32) * x1) + x2).toNatClampNeg) >>> (x3 &&& 31)) &&& (1 : Int32)) = 1 then some 1
    else some 0 else none else none else none
set_option maxHeartbeats 4000000 in
set_option maxRecDepth 100000 in
theorem c_MX_isTurn {l : Launch} {D : va_G} {ad : Nat → Nat} {ca : Nat → ClassId} {S : StM} {x1 : Int32} {x2 : Int32} {x3 : Int32} {r : Int32} (hf : m_MX_isTurn S x1 x2 x3 = some r) : KIM l D ad ca yk_1_isTurn (.code yk_1_isTurn bk_1_isTurn 5 (some .boolean) :: tb) rm_MX_isTurn [.ref (ad 0), .int x1, .int x2, .int x3] S (r, S) := by
  refine met_z (by decide) (Nat.le_of_ble_eq_true rfl) (fun p e s m below meth c A g hr hlk hK hA => ?_)
  replace g : CallFix p m c bk_1_isTurn 5 s _ tb Rk_1 := g
  refine v_lv (lv' := [(0, .ref (ad 0)), (1, .int x1), (2, .int x2), (3, .int x3)]) rfl ?_
  unfold m_MX_isTurn at hf
  refine v_iload_n g dk_1_isTurn_0 2 rfl rfl (pc' := 1) rfl ?_
  refine v_aload_n g dk_1_isTurn_1 0 rfl rfl (pc' := 2) rfl ?_
  refine gfM_X_74 g hK dk_1_isTurn_2 (pc' := 5) rfl ?_
  refine v_iload_n g dk_1_isTurn_5 1 rfl rfl (pc' := 6) rfl ?_
  obtain ⟨hb1, hf⟩ := grd hf
  refine alM_22 g hK hb1 dk_1_isTurn_6 (pc' := 7) rfl ?_
  refine v_icmp_ge (tgt := 27) (pc' := 10) g dk_1_isTurn_7 (by decide) rfl (fun hc => ?_) (fun hc => ?_)
  · replace hf := ifT hc hf
    refine v_iconst (v := (-1)) g dk_1_isTurn_27 (by decide) (pc' := 28) rfl ?_
    refine v_istore (lv' := [(4, .int (-1)), (0, .ref (ad 0)), (1, .int x1), (2, .int x2), (3, .int x3)]) g dk_1_isTurn_28 (by decide) rfl (pc' := 30) rfl ?_
    refine v_iload g dk_1_isTurn_30 0 rfl (pc' := 32) rfl ?_
    refine v_iconst (v := (-1)) g dk_1_isTurn_32 (by decide) (pc' := 33) rfl ?_
    refine v_icmp_ne (tgt := 48) (pc' := 36) g dk_1_isTurn_33 (by decide) rfl (fun hc => ?_) (fun hc => ?_)
    · replace hf := ifF hc hf
      refine v_iload_n g dk_1_isTurn_48 4 rfl rfl (pc' := 49) rfl ?_
      refine v_aload_n g dk_1_isTurn_49 1 rfl rfl (pc' := 50) rfl ?_
      refine gfM_X_13 g hK dk_1_isTurn_50 (pc' := 53) rfl ?_
      refine v_iload g dk_1_isTurn_53 0 rfl (pc' := 55) rfl ?_
      obtain ⟨hb2, hf⟩ := grd hf
      refine alM_2 g hK hb2 dk_1_isTurn_55 (pc' := 56) rfl ?_
      refine v_icmp_ge (tgt := 81) (pc' := 59) g dk_1_isTurn_56 (by decide) rfl (fun hc => ?_) (fun hc => ?_)
      · replace hf := ifT hc hf
        refine v_iconst (v := 0) g dk_1_isTurn_81 (by decide) (pc' := 82) rfl ?_
        exact v_zret g hr hlk hK rfl (pinj hf) dk_1_isTurn_82
      · replace hf := ifF hc hf
        refine v_aload_n g dk_1_isTurn_59 1 rfl rfl (pc' := 60) rfl ?_
        refine gfM_X_80 g hK dk_1_isTurn_60 (pc' := 63) rfl ?_
        refine v_iconst (v := 2) g dk_1_isTurn_63 (by decide) (pc' := 64) rfl ?_
        refine v_iload_n g dk_1_isTurn_64 2 rfl rfl (pc' := 65) rfl ?_
        refine v_imul g dk_1_isTurn_65 (pc' := 66) rfl ?_
        refine v_iload_n g dk_1_isTurn_66 3 rfl rfl (pc' := 67) rfl ?_
        refine v_iadd g dk_1_isTurn_67 (pc' := 68) rfl ?_
        obtain ⟨hb3, hf⟩ := grd hf
        refine alM_24 g hK hb3 dk_1_isTurn_68 (pc' := 69) rfl ?_
        refine v_iload_n g dk_1_isTurn_69 4 rfl rfl (pc' := 70) rfl ?_
        refine v_ishr g dk_1_isTurn_70 (pc' := 71) rfl ?_
        refine v_iconst (v := 1) g dk_1_isTurn_71 (by decide) (pc' := 72) rfl ?_
        refine v_iand g dk_1_isTurn_72 (pc' := 73) rfl ?_
        refine v_iconst (v := 1) g dk_1_isTurn_73 (by decide) (pc' := 74) rfl ?_
        refine v_icmp_ne (tgt := 81) (pc' := 77) g dk_1_isTurn_74 (by decide) rfl (fun hc => ?_) (fun hc => ?_)
        · replace hf := ifF hc hf
          refine v_iconst (v := 0) g dk_1_isTurn_81 (by decide) (pc' := 82) rfl ?_
          exact v_zret g hr hlk hK rfl (pinj hf) dk_1_isTurn_82
        · replace hf := ifT hc hf
          refine v_iconst (v := 1) g dk_1_isTurn_77 (by decide) (pc' := 78) rfl ?_
          refine v_goto (tgt := 82) g dk_1_isTurn_78 (by decide) ?_
          exact v_zret g hr hlk hK rfl (pinj hf) dk_1_isTurn_82
    · replace hf := ifT hc hf
      refine v_iload_n g dk_1_isTurn_36 4 rfl rfl (pc' := 37) rfl ?_
      refine v_if_ne (tgt := 44) (pc' := 40) g dk_1_isTurn_37 (by decide) rfl (fun hc => ?_) (fun hc => ?_)
      · replace hf := ifF hc hf
        refine v_iconst (v := 0) g dk_1_isTurn_44 (by decide) (pc' := 45) rfl ?_
        refine v_goto (tgt := 82) g dk_1_isTurn_45 (by decide) ?_
        exact v_zret g hr hlk hK rfl (pinj hf) dk_1_isTurn_82
      · replace hf := ifT hc hf
        refine v_iconst (v := 1) g dk_1_isTurn_40 (by decide) (pc' := 41) rfl ?_
        refine v_goto (tgt := 82) g dk_1_isTurn_41 (by decide) ?_
        exact v_zret g hr hlk hK rfl (pinj hf) dk_1_isTurn_82
  · replace hf := ifF hc hf
    refine v_aload_n g dk_1_isTurn_10 0 rfl rfl (pc' := 11) rfl ?_
    refine v_aload_n g dk_1_isTurn_11 0 rfl rfl (pc' := 12) rfl ?_
    refine gfM_X_77 g hK dk_1_isTurn_12 (pc' := 15) rfl ?_
    refine v_iconst (v := 2) g dk_1_isTurn_15 (by decide) (pc' := 16) rfl ?_
    refine v_iload_n g dk_1_isTurn_16 1 rfl rfl (pc' := 17) rfl ?_
    refine v_imul g dk_1_isTurn_17 (pc' := 18) rfl ?_
    refine v_iload_n g dk_1_isTurn_18 2 rfl rfl (pc' := 19) rfl ?_
    refine v_iadd g dk_1_isTurn_19 (pc' := 20) rfl ?_
    obtain ⟨hb4, hf⟩ := grd hf
    refine alM_23 g hK hb4 dk_1_isTurn_20 (pc' := 21) rfl ?_
    obtain ⟨q5, hq, hf⟩ := bnd hf
    refine v_callV_i (As := [.int (gA S 22 (((2 : Int32) * x1) + x2).toNatClampNeg)]) (rest := []) (r := q5) (S1 := S) g hK hA (c_MX_baseOf hq) (kcM_X_106 g.2.2.2.2 rfl rfl (Nat.le_of_ble_eq_true rfl) (Nat.le_of_ble_eq_true rfl)) (ci := 1) (q0 := 0) rfl rfl rfl rfl rfl (Nat.le_of_ble_eq_true rfl) dk_1_isTurn_21 (Nat.zero_le _) (Nat.zero_le _) (pc' := 24) rfl ?_
    refine v_goto (tgt := 28) g dk_1_isTurn_24 (by decide) ?_
    refine v_istore (lv' := [(4, .int q5), (0, .ref (ad 0)), (1, .int x1), (2, .int x2), (3, .int x3)]) g dk_1_isTurn_28 (by decide) rfl (pc' := 30) rfl ?_
    refine v_iload g dk_1_isTurn_30 0 rfl (pc' := 32) rfl ?_
    refine v_iconst (v := (-1)) g dk_1_isTurn_32 (by decide) (pc' := 33) rfl ?_
    refine v_icmp_ne (tgt := 48) (pc' := 36) g dk_1_isTurn_33 (by decide) rfl (fun hc => ?_) (fun hc => ?_)
    · replace hf := ifF hc hf
      refine v_iload_n g dk_1_isTurn_48 4 rfl rfl (pc' := 49) rfl ?_
      refine v_aload_n g dk_1_isTurn_49 1 rfl rfl (pc' := 50) rfl ?_
      refine gfM_X_13 g hK dk_1_isTurn_50 (pc' := 53) rfl ?_
      refine v_iload g dk_1_isTurn_53 0 rfl (pc' := 55) rfl ?_
      obtain ⟨hb6, hf⟩ := grd hf
      refine alM_2 g hK hb6 dk_1_isTurn_55 (pc' := 56) rfl ?_
      refine v_icmp_ge (tgt := 81) (pc' := 59) g dk_1_isTurn_56 (by decide) rfl (fun hc => ?_) (fun hc => ?_)
      · replace hf := ifT hc hf
        refine v_iconst (v := 0) g dk_1_isTurn_81 (by decide) (pc' := 82) rfl ?_
        exact v_zret g hr hlk hK rfl (pinj hf) dk_1_isTurn_82
      · replace hf := ifF hc hf
        refine v_aload_n g dk_1_isTurn_59 1 rfl rfl (pc' := 60) rfl ?_
        refine gfM_X_80 g hK dk_1_isTurn_60 (pc' := 63) rfl ?_
        refine v_iconst (v := 2) g dk_1_isTurn_63 (by decide) (pc' := 64) rfl ?_
        refine v_iload_n g dk_1_isTurn_64 2 rfl rfl (pc' := 65) rfl ?_
        refine v_imul g dk_1_isTurn_65 (pc' := 66) rfl ?_
        refine v_iload_n g dk_1_isTurn_66 3 rfl rfl (pc' := 67) rfl ?_
        refine v_iadd g dk_1_isTurn_67 (pc' := 68) rfl ?_
        refine alM_24 g hK hb4 dk_1_isTurn_68 (pc' := 69) rfl ?_
        refine v_iload_n g dk_1_isTurn_69 4 rfl rfl (pc' := 70) rfl ?_
        refine v_ishr g dk_1_isTurn_70 (pc' := 71) rfl ?_
        refine v_iconst (v := 1) g dk_1_isTurn_71 (by decide) (pc' := 72) rfl ?_
        refine v_iand g dk_1_isTurn_72 (pc' := 73) rfl ?_
        refine v_iconst (v := 1) g dk_1_isTurn_73 (by decide) (pc' := 74) rfl ?_
        refine v_icmp_ne (tgt := 81) (pc' := 77) g dk_1_isTurn_74 (by decide) rfl (fun hc => ?_) (fun hc => ?_)
        · replace hf := ifF hc hf
          refine v_iconst (v := 0) g dk_1_isTurn_81 (by decide) (pc' := 82) rfl ?_
          exact v_zret g hr hlk hK rfl (pinj hf) dk_1_isTurn_82
        · replace hf := ifT hc hf
          refine v_iconst (v := 1) g dk_1_isTurn_77 (by decide) (pc' := 78) rfl ?_
          refine v_goto (tgt := 82) g dk_1_isTurn_78 (by decide) ?_
          exact v_zret g hr hlk hK rfl (pinj hf) dk_1_isTurn_82
    · replace hf := ifT hc hf
      refine v_iload_n g dk_1_isTurn_36 4 rfl rfl (pc' := 37) rfl ?_
      refine v_if_ne (tgt := 44) (pc' := 40) g dk_1_isTurn_37 (by decide) rfl (fun hc => ?_) (fun hc => ?_)
      · replace hf := ifF hc hf
        refine v_iconst (v := 0) g dk_1_isTurn_44 (by decide) (pc' := 45) rfl ?_
        refine v_goto (tgt := 82) g dk_1_isTurn_45 (by decide) ?_
        exact v_zret g hr hlk hK rfl (pinj hf) dk_1_isTurn_82
      · replace hf := ifT hc hf
        refine v_iconst (v := 1) g dk_1_isTurn_40 (by decide) (pc' := 41) rfl ?_
        refine v_goto (tgt := 82) g dk_1_isTurn_41 (by decide) ?_
        exact v_zret g hr hlk hK rfl (pinj hf) dk_1_isTurn_82
