/-! a PAIR for a TARGET and a code; turns of a CHANGE -/
theorem pairOfCM {S : StC} {T : StM} {nS nP nK nQ nT nE nN nR t : Nat} {x : Int64} (h : Inv S T nS nP nK nQ nT nE nN nR) (sc : Scr T nS nP x) (ht : t < nT) : ∃ r S' T' nK' nR', m_CX_pairOf S (nI t) x = some (r, S') ∧ m_MX_pairOf T (nI t) = some (r, T') ∧ Inv S' T' nS nP nK' nQ nT nE nN nR' ∧ nK ≤ nK' ∧ nR ≤ nR' ∧ Stq S S' T T' nK nR ∧ (r = -1 ∨ ∃ p : Nat, p < nR' ∧ r = nI p) := by
  have hT : nT ≤ 16 := h.1.2.2.2.2.1.1
  obtain ⟨z, z1, z2⟩ := readAllM h.1 ht
  have ez : z = gA S 8 t := rep_ext z2 (h.2.2.1 t ht) (fun _ _ => Iff.rfl)
  rw [ez] at z1
  obtain ⟨y, r, S1, T1, nK', f1, f2, f3, f4, f5, f6, f7, f8⟩ := trimNum (gA S 8 t) h.1 z1 sc
  have i1 := inv_num h f4 f5 f6 f7
  have s1 : Stq S S1 T T1 nK nR := stp_num f6 f7
  have eC : m_CX_pairOf S (nI t) x = if r = -1 then some (-1, S1) else m_CPairs_numberOf S1 (nI t) r := by
    unfold m_CX_pairOf
    rw [if_pos (inb_nI (show t < 16 by omega) (by decide)), nI_clamp (show t < 2 ^ 31 by omega), f1, Option.bind_some, f2, Option.bind_some]
    by_cases e : r = -1
    · rw [if_pos e, if_pos e]
    · rw [if_neg e, if_neg e]
      show (m_CPairs_numberOf S1 (nI t) r).bind _ = _
      cases m_CPairs_numberOf S1 (nI t) r with
      | none => rfl
      | some v => rfl
  have eM : m_MX_pairOf T (nI t) = if r = -1 then some (-1, T1) else tailM T1 (nI t) r := by
    rw [pairOfM_e, f3, Option.bind_some]
  rcases f8 with e | ⟨c, hc, e, -⟩
  · refine ⟨-1, S1, T1, nK', nR, by rw [eC, if_pos e], by rw [eM, if_pos e], i1, f5, Nat.le_refl _, s1, Or.inl rfl⟩
  · have ne : ¬ r = -1 := by rw [e]; exact nI_ne_m1 (by have : nK' ≤ 60 := f4.2.2.1.1; omega)
    obtain ⟨r', S2, T2, nR', q1, q2, q3, q4, q5, q6⟩ := pairNum i1 ht hc
    refine ⟨r', S2, T2, nK', nR', by rw [eC, if_neg ne, e, q1], by rw [eM, if_neg ne, e, q2], q3, f5, q4, stp_tr s1 q5 f5 (Nat.le_refl _), q6⟩
/-- the BASE that a CHANGE of a NEED is about -/
def bsT (nS : Nat) (T : StM) (e i : Nat) : Int32 := if i < (gA T 21 e).toNatClampNeg then bas nS (gA T 0) (gA T 22 (2 * e + i)) else -1
/-- the turns of a CHANGE -/
def tnT (nS : Nat) (T : StM) (e i v : Nat) : Prop := (bsT nS T e i = -1 ∧ v = 0) ∨ (¬ bsT nS T e i = -1 ∧ v < (gA T 1 (bsT nS T e i).toNatClampNeg).toNatClampNeg ∧ bt (gA T 23 (2 * e + i)) v = true)
theorem bs_st {T T' : StM} (g : StT T T') (nS e i : Nat) : bsT nS T' e i = bsT nS T e i := by
  unfold bsT
  rw [g 21 (by decide) (by decide) (by decide), g 0 (by decide) (by decide) (by decide), g 22 (by decide) (by decide) (by decide)]
theorem tn_st {T T' : StM} (g : StT T T') (nS e i v : Nat) : tnT nS T' e i v ↔ tnT nS T e i v := by
  unfold tnT
  rw [bs_st g, g 1 (by decide) (by decide) (by decide), g 23 (by decide) (by decide) (by decide)]
theorem bs_is {T : StM} {nS : Nat} (hS : nS ≤ 16) (e i : Nat) : bsT nS T e i = -1 ∨ ∃ j : Nat, j < nS ∧ gA T 0 j = -1 ∧ bsT nS T e i = nI j := by
  unfold bsT
  by_cases c : i < (gA T 21 e).toNatClampNeg
  · rw [if_pos c]; exact bas_is hS _
  · rw [if_neg c]; exact Or.inl rfl
theorem needOf {S : StC} {T : StM} {nS nP nK nQ nT nE nN e : Nat} (h : RelB S T nS nP nK nQ nT nE nN) (he : e < nN) : (∃ t : Nat, t < nT ∧ gA S 16 e = nI t ∧ gA T 19 e = nI t) ∧ (∃ t : Nat, t < nT ∧ gA S 17 e = nI t ∧ gA T 20 e = nI t) ∧ ∃ k : Nat, k ≤ 2 ∧ gA S 18 e = nI k ∧ gA T 21 e = nI k ∧ ∀ j, j < k → gA S 19 (2 * e + j) = gA T 22 (2 * e + j) ∧ gA S 20 (2 * e + j) = gA T 23 (2 * e + j) := by
  obtain ⟨-, -, -, -, -, -, hN, r1, r2, r3, r4, r5, r6, r7, r8, r9, r10, r11, r12, -⟩ := h
  obtain ⟨a, k, b1, b2', b3, b4, b5⟩ := r12 e (by omega)
  exact ⟨(a he).1, (a he).2, k, b1, b2', b3, fun j hj => ⟨(b5 j hj).1, (b5 j hj).2.1⟩⟩
theorem chgC {S : StC} {T : StM} {nS nP nK nQ nT nE nN e i : Nat} (h : RelB S T nS nP nK nQ nT nE nN) (he : e < nN) (hi : i < 2) : m_CX_changedBase S (nI e) (nI i) = some (bsT nS T e i) := by
  obtain ⟨-, -, k, hk, ekc, ekm, hkj⟩ := needOf h he
  obtain ⟨⟨hS, hSc, hSm⟩, -, -, -, -, -, ⟨hN, -⟩, r1, -⟩ := h
  have ek : (gA T 21 e).toNatClampNeg = k := by rw [ekm, nI_clamp (by omega)]
  unfold m_CX_changedBase bsT
  rw [if_pos (inb_nI (show e < 40 by omega) (by decide)), nI_clamp (show e < 2 ^ 31 by omega), ekc, ek]
  by_cases c : i < k
  · rw [if_neg (nI_ge c (by omega)), if_pos c]
    unfold m_CNeeds_settingAt
    rw [ixc2, if_pos (inb_nI (show 2 * e + i < 80 by omega) (by decide)), Option.bind_some, nI_clamp (show 2 * e + i < 2 ^ 31 by omega), (hkj i c).1, baseC (T := T) hSc hS (fun i hi => (r1 i hi).2.2.1), Option.bind_some]
  · rw [if_pos (nI_le (by omega) (by omega)), if_neg c]
theorem low_bits : ∀ m : Fin 9, ∀ v : Fin 32, bt (((1 : Int32) <<< (nI m.val &&& 31)) - (1 : Int32)) v.val = decide (v.val < m.val) := by decide +kernel
theorem manyOf {S : StC} {T : StM} {nS nP nK nQ nT nE nN j : Nat} (h : RelB S T nS nP nK nQ nT nE nN) (hj : j < nS) (hm : gA T 0 j = -1) : ∃ v : Nat, v ≤ 8 ∧ gA T 1 j = nI v ∧ gA S 0 j = nI v := by
  obtain ⟨-, -, -, -, -, -, -, r1, -⟩ := h
  obtain ⟨e1, -, -, o⟩ := r1 j hj
  rcases o with ⟨-, v, f, o1, -, -, o4⟩ | ⟨i, hi, o1, -⟩
  · exact ⟨v, o4, o1, e1.trans o1⟩
  · exact absurd (hm.symm.trans o1).symm (nI_ne_m1 (by omega))
theorem turnsC {S : StC} {T : StM} {nS nP nK nQ nT nE nN e i : Nat} (h : RelB S T nS nP nK nQ nT nE nN) (he : e < nN) (hi : i < 2) : ∃ z, m_CX_turnsOf S (nI e) (nI i) (bsT nS T e i) = some z ∧ ∀ v, v < 8 → (bt z v = true ↔ tnT nS T e i v) := by
  obtain ⟨-, -, k, hk, ekc, ekm, hkj⟩ := needOf h he
  have hS : nS ≤ 16 := h.1.1
  have hN : nN ≤ 40 := h.2.2.2.2.2.2.1.1
  have ek : (gA T 21 e).toNatClampNeg = k := by rw [ekm, nI_clamp (by omega)]
  unfold m_CX_turnsOf tnT
  rcases bs_is (T := T) hS e i with o | ⟨j, hj, hm, o⟩
  · refine ⟨1, by rw [if_pos o], fun v hv => ?_⟩
    rw [bt_1 v (by omega), decide_eq_true_eq]
    exact ⟨fun q => Or.inl ⟨o, q⟩, fun q => q.elim (fun q => q.2) (fun q => absurd o q.1)⟩
  · have ne : ¬ bsT nS T e i = -1 := by rw [o]; exact nI_ne_m1 (by omega)
    have hik : i < k := by
      apply Classical.byContradiction
      intro hh
      apply ne
      unfold bsT
      rw [ek, if_neg hh]
    obtain ⟨m, hm8, em, ec⟩ := manyOf h hj hm
    refine ⟨gA T 23 (2 * e + i) &&& (((1 : Int32) <<< (nI m &&& 31)) - (1 : Int32)), ?_, fun v hv => ?_⟩
    · rw [if_neg ne]
      unfold m_CNeeds_valuesAt
      rw [ixc2, if_pos (inb_nI (show 2 * e + i < 80 by omega) (by decide)), Option.bind_some, nI_clamp (show 2 * e + i < 2 ^ 31 by omega), (hkj i hik).2, o, if_pos (inb_nI (show j < 16 by omega) (by decide)), nI_clamp (show j < 2 ^ 31 by omega), ec]
    · rw [b_and, low_bits ⟨m, by omega⟩ ⟨v, by omega⟩, Bool.and_eq_true, decide_eq_true_eq, o, nI_clamp (show j < 2 ^ 31 by omega), em, nI_clamp (show m < 2 ^ 31 by omega)]
      exact ⟨fun q => Or.inr ⟨nI_ne_m1 (by omega), q.2, q.1⟩, fun q => q.elim (fun q => absurd q.1 (nI_ne_m1 (by omega))) (fun q => ⟨q.2.2, q.2.1⟩)⟩
theorem turnM {S : StC} {T : StM} {nS nP nK nQ nT nE nN e i v : Nat} (h : RelB S T nS nP nK nQ nT nE nN) (he : e < nN) (hi : i < 2) (hv : v < 8) : m_MX_isTurn T (nI e) (nI i) (nI v) = some (b2 (tnT nS T e i v)) := by
  obtain ⟨-, -, k, hk, ekc, ekm, hkj⟩ := needOf h he
  have h0 := h
  obtain ⟨⟨hS, hSc, hSm⟩, -, -, -, -, -, ⟨hN, -⟩, -⟩ := h
  have ek : (gA T 21 e).toNatClampNeg = k := by rw [ekm, nI_clamp (by omega)]
  have z1 : bsT nS T e i = -1 → (if nI v = 0 then some (1 : Int32) else some 0) = some (b2 (tnT nS T e i v)) := fun o => by
    by_cases c : v = 0
    · rw [c, if_pos (show nI 0 = 0 from rfl), b2_t (show tnT nS T e i 0 from Or.inl ⟨o, rfl⟩)]
    · rw [if_neg (show ¬ nI v = 0 from fun q => c (nI_inj (b := 0) (by omega) (by decide) q)), b2_f (show ¬ tnT nS T e i v from fun q => Or.elim q (fun q => c q.2) (fun q => q.1 o))]
  unfold m_MX_isTurn
  rw [if_pos (inb_nI (show e < 40 by omega) (by decide)), nI_clamp (show e < 2 ^ 31 by omega), ekm]
  by_cases c : i < k
  · have eb : bsT nS T e i = bas nS (gA T 0) (gA T 22 (2 * e + i)) := by unfold bsT; rw [ek, if_pos c]
    rw [if_neg (nI_ge c (by omega)), ixm2, if_pos (inb_nI (show 2 * e + i < 80 by omega) (by decide)), nI_clamp (show 2 * e + i < 2 ^ 31 by omega), baseM hSm hS, Option.bind_some, ← eb]
    rcases bs_is (T := T) hS e i with o | ⟨j, hj, hm, o⟩
    · rw [if_pos o]; exact z1 o
    · have ne : ¬ bsT nS T e i = -1 := by rw [o]; exact nI_ne_m1 (by omega)
      obtain ⟨m, hm8, em, ec⟩ := manyOf h0 hj hm
      rw [if_neg ne]
      unfold tnT
      rw [o, if_pos (inb_nI (show j < 16 by omega) (by decide)), nI_clamp (show j < 2 ^ 31 by omega), em, nI_clamp (show m < 2 ^ 31 by omega)]
      by_cases c1 : v < m
      · rw [if_neg (nI_ge c1 (by omega))]
        by_cases c2 : bt (gA T 23 (2 * e + i)) v = true
        · rw [if_pos ((bitM1 _ (show v < 31 by omega)).mpr c2), b2_t (Or.inr ⟨nI_ne_m1 (by omega), c1, c2⟩)]
        · rw [if_neg (fun q => c2 ((bitM1 _ (show v < 31 by omega)).mp q)), b2_f (fun q => q.elim (fun q => nI_ne_m1 (by omega) q.1) (fun q => c2 q.2.2))]
      · rw [if_pos (nI_le (by omega) (by omega)), b2_f (fun q => q.elim (fun q => nI_ne_m1 (by omega) q.1) (fun q => c1 q.2.1))]
  · have eb : bsT nS T e i = -1 := by unfold bsT; rw [ek, if_neg c]
    rw [if_pos (nI_le (by omega) (by omega)), if_pos rfl]
    exact z1 eb
/-- a code behind a turn -/
def aft (x : Int64) (b : Int32) (v : Nat) : Int64 := if b = -1 then x else wv x b (nI v)
theorem aftC (S : StC) (x : Int64) (b : Int32) (v : Nat) : m_CX_afterChange S x b (nI v) = some (aft x b v) := by
  unfold m_CX_afterChange aft
  by_cases c : b = -1
  · rw [if_pos c, if_pos c]
  · rw [if_neg c, if_neg c]; rfl
theorem turn_scr {S : StC} {T : StM} {nS nP nK nQ nT nE nN e i v : Nat} {x : Int64} (h : RelB S T nS nP nK nQ nT nE nN) (he : e < nN) (hi : i < 2) (hv : v < 8) (sc : Scr T nS nP x) : ∃ T', m_MX_turn T (nI e) (nI i) (nI v) = some T' ∧ FrS T T' ∧ Scr T' nS nP (aft x (bsT nS T e i) v) := by
  obtain ⟨-, -, k, hk, ekc, ekm, hkj⟩ := needOf h he
  obtain ⟨⟨hS, hSc, hSm⟩, -, -, -, -, -, ⟨hN, -⟩, -⟩ := h
  have ek : (gA T 21 e).toNatClampNeg = k := by rw [ekm, nI_clamp (by omega)]
  unfold m_MX_turn aft
  rw [if_pos (inb_nI (show e < 40 by omega) (by decide)), nI_clamp (show e < 2 ^ 31 by omega), ekm]
  by_cases c : i < k
  · have eb : bsT nS T e i = bas nS (gA T 0) (gA T 22 (2 * e + i)) := by unfold bsT; rw [ek, if_pos c]
    rw [if_neg (nI_ge c (by omega)), ixm2, if_pos (inb_nI (show 2 * e + i < 80 by omega) (by decide)), nI_clamp (show 2 * e + i < 2 ^ 31 by omega), baseM hSm hS, Option.bind_some, ← eb]
    rcases bs_is (T := T) hS e i with o | ⟨j, hj, hm, o⟩
    · rw [if_pos o, if_pos o]; exact ⟨T, rfl, frS_rf T, sc⟩
    · have ne : ¬ bsT nS T e i = -1 := by rw [o]; exact nI_ne_m1 (by omega)
      rw [if_neg ne, if_neg ne, o, giveM T (show j < 16 by omega), Option.bind_some]
      exact ⟨_, rfl, give_fr T (by omega) _, give_scr hS sc hj hv (Or.inl hm)⟩
  · have eb : bsT nS T e i = -1 := by unfold bsT; rw [ek, if_neg c]
    rw [if_pos (nI_le (by omega) (by omega)), if_pos rfl, if_pos eb]
    exact ⟨T, rfl, frS_rf T, sc⟩
