/-! the calls that only add or change rows -/
theorem in_e (T : StM) (x y : Int32) : m_MX_in T x y = thr x y := rfl
theorem cS_e (S : StC) (x : Int32) : m_CSettings_isThere S x = thr x (gI S 0) := rfl
theorem cP_e (S : StC) (x : Int32) : m_CPlatforms_isThere S x = thr x (gI S 1) := rfl
theorem cK_e (S : StC) (x : Int32) : m_CConfigurations_isThere S x = thr x (gI S 2) := rfl
theorem cQ_e (S : StC) (x : Int32) : m_CConditions_isThere S x = thr x (gI S 3) := rfl
theorem cT_e (S : StC) (x : Int32) : m_CTargets_isThere S x = thr x (gI S 4) := rfl
theorem cE_e (S : StC) (x : Int32) : m_CSelects_isThere S x = thr x (gI S 5) := rfl
theorem cN_e (S : StC) (x : Int32) : m_CNeeds_isThere S x = thr x (gI S 6) := rfl
theorem cR_e (S : StC) (x : Int32) : m_CPairs_isThere S x = thr x (gI S 7) := rfl
theorem cAx_e (S : StC) (x : Int32) : m_CX_isAxis S x = thr x (nI 8) := rfl
theorem cVa_e (S : StC) (x : Int32) : m_CX_isValue S x = thr x (nI 8) := rfl
theorem op5 : Op5 Rel := by
  intro S T h
  obtain ⟨nS, nP, nK, nQ, nT, nE, nN, nR, hS, hP, hK, ⟨hQ, hQc, hQm⟩, hT, hE, hN, hR, r1, r2, r3, r4, r5, r6, r7, r8, r9, r10, r11, r12, r13, r14⟩ := h
  by_cases hq : nQ = 40
  · refine ⟨-1, S, T, ?_, ?_, nS, nP, nK, nQ, nT, nE, nN, nR, hS, hP, hK, ⟨hQ, hQc, hQm⟩, hT, hE, hN, hR, r1, r2, r3, r4, r5, r6, r7, r8, r9, r10, r11, r12, r13, r14⟩
    · subst hq
      simp only [m_CX_condition, m_CConditions_add, hQc]
      rfl
    · subst hq
      simp only [m_MX_condition, hQm]
      rfl
  · have hlt : nQ < 40 := by omega
    refine ⟨nI nQ, sI S 3 (nI nQ + 1), sI T 3 (nI nQ + 1), ?_, ?_, nS, nP, nK, nQ + 1, nT, nE, nN, nR, hS, hP, hK, ⟨hlt, nI_1 nQ, nI_1 nQ⟩, hT, hE, hN, hR, r1, r2, r3, ?_, r5, ?_, ?_, r8, r9, r10, r11, r12, r13, r14⟩
    · have h1 : nI nQ < (40 : Int32) := nI_lt (b := 40) hlt (by decide)
      simp only [m_CX_condition, m_CConditions_add, hQc, if_pos h1, Option.bind]
    · have h1 : ¬ nI nQ = (40 : Int32) := fun e => hq (nI_inj (b := 40) (by omega) (by decide) e)
      simp only [m_MX_condition, hQm, if_neg h1, inc_dec]
    · intro q hq4
      obtain ⟨k, h1, h2, h3, h4, h5⟩ := r4 q hq4
      exact ⟨k, h1, h2, h3, fun h => h4 (by omega), h5⟩
    · intro t ht
      obtain ⟨h1, h2⟩ := r6 t ht
      exact ⟨h1, h2.imp id (fun ⟨q, a, b⟩ => ⟨q, by omega, b⟩)⟩
    · intro s hs
      obtain ⟨k, h1, h2, h3, h4, h5⟩ := r7 s hs
      refine ⟨k, h1, h2, h3, h4, fun b hb => ?_⟩
      obtain ⟨a1, a2, a3, ⟨q, a4, a5⟩, a6⟩ := h5 b hb
      exact ⟨a1, a2, a3, ⟨q, by omega, a5⟩, a6⟩
theorem op7 : Op7 Rel := by
  intro S T h
  obtain ⟨nS, nP, nK, nQ, nT, nE, nN, nR, hS, hP, hK, hQ, ⟨hT, hTc, hTm⟩, hE, hN, hR, r1, r2, r3, r4, r5, r6, r7, r8, r9, r10, r11, r12, r13, r14⟩ := h
  by_cases hq : nT = 16
  · refine ⟨-1, S, T, ?_, ?_, nS, nP, nK, nQ, nT, nE, nN, nR, hS, hP, hK, hQ, ⟨hT, hTc, hTm⟩, hE, hN, hR, r1, r2, r3, r4, r5, r6, r7, r8, r9, r10, r11, r12, r13, r14⟩
    · subst hq
      simp only [m_CX_target, m_CTargets_add, hTc]
      rfl
    · subst hq
      simp only [m_MX_target, hTm]
      rfl
  · have hlt : nT < 16 := by omega
    have hb : inb (nI nT) 16 = true := inb_nI hlt (by decide)
    refine ⟨nI nT, sI (tA S 7 (nI nT) (-1)) 4 (nI nT + 1), sI (tA T 17 (nI nT) (-1)) 5 (nI nT + 1), ?_, ?_, nS, nP, nK, nQ, nT + 1, nE, nN, nR, hS, hP, hK, hQ, ⟨hlt, nI_1 nT, nI_1 nT⟩, hE, hN, hR, r1, r2, r3, r4, r5, ?_, r7, ?_, r9, r10, r11, ?_, r13, r14⟩
    · have h1 : nI nT < (16 : Int32) := nI_lt (b := 16) hlt (by decide)
      simp only [m_CX_target, m_CTargets_add, hTc, if_pos h1, hb, if_true, Option.bind]
    · have h1 : ¬ nI nT = (16 : Int32) := fun e => hq (nI_inj (b := 16) (by omega) (by decide) e)
      simp only [m_MX_target, hTm, if_neg h1, hb, if_true, inc_dec]
    · intro t ht
      have ec : gA (sI (tA S 7 (nI nT) (-1)) 4 (nI nT + 1)) 7 = upd (gA S 7) (nI nT).toNatClampNeg (-1) := rfl
      have em : gA (sI (tA T 17 (nI nT) (-1)) 5 (nI nT + 1)) 17 = upd (gA T 17) (nI nT).toNatClampNeg (-1) := rfl
      rw [ec, em, nI_clamp (by omega), upd_e, upd_e]
      by_cases e : t = nT
      · rw [if_pos e, if_pos e]; exact ⟨rfl, Or.inl rfl⟩
      · rw [if_neg e, if_neg e]; exact r6 t (by omega)
    · intro s hs
      obtain ⟨t, h1, h2⟩ := r8 s hs
      exact ⟨t, by omega, h2⟩
    · intro e he
      obtain ⟨h1, h2⟩ := r12 e he
      refine ⟨fun h => ?_, h2⟩
      obtain ⟨⟨t, a1, a2⟩, ⟨u, b1, b2⟩⟩ := h1 h
      exact ⟨⟨t, by omega, a2⟩, ⟨u, by omega, b2⟩⟩
theorem one0 : ¬ (1 : Int32) = 0 := by decide
theorem zero0 : (0 : Int32) = 0 := rfl
theorem op23 : Op23 Rel := by
  intro S T a1 a2 h
  have h0 := h
  obtain ⟨nS, nP, nK, nQ, nT, nE, nN, nR, hS, hP, hK, hQ, hT, hE, hN, ⟨hR, hRc, hRm⟩, r1, r2, r3, r4, r5, r6, r7, r8, r9, r10, r11, r12, r13, r14⟩ := h
  rcases rng a1 (n := nR) (by omega) with ⟨j, hj, rfl⟩ | hno
  · obtain ⟨e1, e2, e3⟩ := r13 j hj
    have b1 : inb (nI j) 60 = true := inb_nI (by omega) (by decide)
    have b2 : inb (nI j) 61 = true := inb_nI (by omega) (by decide)
    simp only [m_CX_pair, m_MX_pair, cR_e, in_e, hRc, hRm, thr_yes hj (show nR < 2 ^ 31 by omega), Option.bind_some, if_neg one0, b1, b2, if_true, nI_clamp (show j < 2 ^ 31 by omega), e1, e2, e3]
    by_cases c0 : a2 = 0
    · simp only [if_pos c0]; exact ⟨_, rfl, rfl, h0⟩
    · by_cases c1 : a2 = 1
      · simp only [if_neg c0, if_pos c1]; exact ⟨_, rfl, rfl, h0⟩
      · by_cases c2 : a2 = 2
        · simp only [if_neg c0, if_neg c1, if_pos c2]; exact ⟨_, rfl, rfl, h0⟩
        · simp only [if_neg c0, if_neg c1, if_neg c2]; exact ⟨_, rfl, rfl, h0⟩
  · refine ⟨-1, ?_, ?_, h0⟩
    · simp only [m_CX_pair, cR_e, hRc, thr_no hno, Option.bind_some, if_true]
    · simp only [m_MX_pair, in_e, hRm, thr_no hno, Option.bind_some, if_true]
theorem op8 : Op8 Rel := by
  intro S T a1 a2 h
  have h0 := h
  obtain ⟨nS, nP, nK, nQ, nT, nE, nN, nR, hS, hP, hK, ⟨hQ, hQc, hQm⟩, ⟨hT, hTc, hTm⟩, hE, hN, hR, r1, r2, r3, r4, r5, r6, r7, r8, r9, r10, r11, r12, r13, r14⟩ := h
  rcases rng a1 (n := nT) (by omega) with ⟨j, hj, rfl⟩ | hno
  · rcases rng a2 (n := nQ) (by omega) with ⟨q, hq, rfl⟩ | hno
    · have b1 : inb (nI j) 16 = true := inb_nI (by omega) (by decide)
      have b2 : inb (nI q) 40 = true := inb_nI (by omega) (by decide)
      have ej := nI_clamp (show j < 2 ^ 31 by omega)
      have eq := nI_clamp (show q < 2 ^ 31 by omega)
      refine ⟨1, tA (tA S 7 (nI j) (nI q)) 6 (nI q) (vp_nar .boolean 1), tA (tA T 17 (nI j) (nI q)) 18 (nI q) (vp_nar .boolean 1), ?_, ?_, nS, nP, nK, nQ, nT, nE, nN, nR, hS, hP, hK, ⟨hQ, hQc, hQm⟩, ⟨hT, hTc, hTm⟩, hE, hN, hR, r1, r2, r3, r4, ?_, ?_, r7, r8, r9, r10, r11, r12, r13, r14⟩
      · simp only [m_CX_wants, cT_e, cQ_e, hTc, hQc, thr_yes hj (show nT < 2 ^ 31 by omega), thr_yes hq (show nQ < 2 ^ 31 by omega), Option.bind_some, if_neg one0, b1, b2, if_true]
      · simp only [m_MX_wants, in_e, hTm, hQm, thr_yes hj (show nT < 2 ^ 31 by omega), thr_yes hq (show nQ < 2 ^ 31 by omega), Option.bind_some, if_neg one0, b1, b2, if_true]
      · intro d hd
        show (upd (gA T 18) (nI q).toNatClampNeg 1 d = 0 ∨ upd (gA T 18) (nI q).toNatClampNeg 1 d = 1) ∧ ((upd (gA S 6) (nI q).toNatClampNeg 1 d = 0 ∧ upd (gA T 18) (nI q).toNatClampNeg 1 d = 0 ∧ _) ∨ (upd (gA S 6) (nI q).toNatClampNeg 1 d = 1 ∧ (upd (gA T 18) (nI q).toNatClampNeg 1 d = 1 ∨ _)))
        rw [eq, upd_e, upd_e]
        by_cases e : d = q
        · rw [if_pos e, if_pos e]; exact ⟨Or.inr rfl, Or.inr ⟨rfl, Or.inl rfl⟩⟩
        · rw [if_neg e, if_neg e]; exact r5 d hd
      · intro t ht
        show upd (gA S 7) (nI j).toNatClampNeg (nI q) t = upd (gA T 17) (nI j).toNatClampNeg (nI q) t ∧ (upd (gA T 17) (nI j).toNatClampNeg (nI q) t = -1 ∨ ∃ x : Nat, x < nQ ∧ upd (gA T 17) (nI j).toNatClampNeg (nI q) t = nI x)
        rw [ej, upd_e, upd_e]
        by_cases e : t = j
        · rw [if_pos e, if_pos e]; exact ⟨rfl, Or.inr ⟨q, hq, rfl⟩⟩
        · rw [if_neg e, if_neg e]; exact r6 t ht
    · refine ⟨0, S, T, ?_, ?_, h0⟩
      · simp only [m_CX_wants, cT_e, cQ_e, hTc, hQc, thr_yes hj (show nT < 2 ^ 31 by omega), thr_no hno, Option.bind_some, if_neg one0, if_true]
      · simp only [m_MX_wants, in_e, hTm, hQm, thr_yes hj (show nT < 2 ^ 31 by omega), thr_no hno, Option.bind_some, if_neg one0, if_true]
  · refine ⟨0, S, T, ?_, ?_, h0⟩
    · simp only [m_CX_wants, cT_e, hTc, thr_no hno, Option.bind_some, if_true]
    · simp only [m_MX_wants, in_e, hTm, thr_no hno, Option.bind_some, if_true]
theorem op18 : Op18 Rel := by
  intro S T a1 a2 h
  have h0 := h
  obtain ⟨nS, nP, nK, nQ, nT, nE, nN, nR, hS, hP, hK, hQ, ⟨hT, hTc, hTm⟩, hE, ⟨hN, hNc, hNm⟩, hR, r1, r2, r3, r4, r5, r6, r7, r8, r9, r10, r11, r12, r13, r14⟩ := h
  rcases rng a1 (n := nT) (by omega) with ⟨j, hj, rfl⟩ | hno
  · rcases rng a2 (n := nT) (by omega) with ⟨q, hq, rfl⟩ | hno
    · by_cases hf : nN = 40
      · refine ⟨-1, S, T, ?_, ?_, h0⟩
        · subst hf
          simp only [m_CX_need, m_CNeeds_add, cT_e, hTc, hNc, thr_yes hj (show nT < 2 ^ 31 by omega), thr_yes hq (show nT < 2 ^ 31 by omega), Option.bind_some, if_neg one0]
          rfl
        · subst hf
          simp only [m_MX_need, in_e, hTm, hNm, thr_yes hj (show nT < 2 ^ 31 by omega), thr_yes hq (show nT < 2 ^ 31 by omega), Option.bind_some, if_neg one0]
          rfl
      · have hlt : nN < 40 := by omega
        have b1 : inb (nI nN) 40 = true := inb_nI (by omega) (by decide)
        have h1 : nI nN < (40 : Int32) := nI_lt (b := 40) hlt (by decide)
        have h2 : ¬ nI nN = (40 : Int32) := fun e => hf (nI_inj (b := 40) (by omega) (by decide) e)
        have en := nI_clamp (show nN < 2 ^ 31 by omega)
        refine ⟨nI nN, sI (tA (tA S 16 (nI nN) (nI j)) 17 (nI nN) (nI q)) 6 (nI nN + 1), sI (tA (tA T 19 (nI nN) (nI j)) 20 (nI nN) (nI q)) 6 (nI nN + 1), ?_, ?_, nS, nP, nK, nQ, nT, nE, nN + 1, nR, hS, hP, hK, hQ, ⟨hT, hTc, hTm⟩, hE, ⟨hlt, nI_1 nN, nI_1 nN⟩, hR, r1, r2, r3, r4, r5, r6, r7, r8, r9, r10, r11, ?_, r13, r14⟩
        · simp only [m_CX_need, m_CNeeds_add, cT_e, hTc, hNc, thr_yes hj (show nT < 2 ^ 31 by omega), thr_yes hq (show nT < 2 ^ 31 by omega), Option.bind_some, if_neg one0, if_pos h1, b1, if_true]
        · simp only [m_MX_need, in_e, hTm, hNm, thr_yes hj (show nT < 2 ^ 31 by omega), thr_yes hq (show nT < 2 ^ 31 by omega), Option.bind_some, if_neg one0, if_neg h2, b1, if_true, inc_dec]
        · intro e he
          obtain ⟨h3, k, h4, h5, h6, h7, h8⟩ := r12 e he
          refine ⟨fun h => ?_, k, h4, h5, h6, fun h => h7 (by omega), h8⟩
          show (∃ t : Nat, t < nT ∧ upd (gA S 16) (nI nN).toNatClampNeg (nI j) e = nI t ∧ upd (gA T 19) (nI nN).toNatClampNeg (nI j) e = nI t) ∧ ∃ t : Nat, t < nT ∧ upd (gA S 17) (nI nN).toNatClampNeg (nI q) e = nI t ∧ upd (gA T 20) (nI nN).toNatClampNeg (nI q) e = nI t
          rw [en, upd_e, upd_e, upd_e, upd_e]
          by_cases c : e = nN
          · rw [if_pos c, if_pos c, if_pos c, if_pos c]; exact ⟨⟨j, hj, rfl, rfl⟩, ⟨q, hq, rfl, rfl⟩⟩
          · rw [if_neg c, if_neg c, if_neg c, if_neg c]; exact h3 (by omega)
    · refine ⟨-1, S, T, ?_, ?_, h0⟩
      · simp only [m_CX_need, cT_e, hTc, thr_yes hj (show nT < 2 ^ 31 by omega), thr_no hno, Option.bind_some, if_neg one0, if_true]
      · simp only [m_MX_need, in_e, hTm, thr_yes hj (show nT < 2 ^ 31 by omega), thr_no hno, Option.bind_some, if_neg one0, if_true]
  · refine ⟨-1, S, T, ?_, ?_, h0⟩
    · simp only [m_CX_need, cT_e, hTc, thr_no hno, Option.bind_some, if_true]
    · simp only [m_MX_need, in_e, hTm, thr_no hno, Option.bind_some, if_true]
