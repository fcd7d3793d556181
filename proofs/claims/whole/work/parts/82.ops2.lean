theorem ixc2 (a b : Nat) : nI a * (2 : Int32) + nI b = nI (2 * a + b) := by rw [show (2 : Int32) = nI 2 from rfl, pk_mul, nI_add, Nat.mul_comm]
theorem ixm2 (a b : Nat) : (2 : Int32) * nI a + nI b = nI (2 * a + b) := by rw [show (2 : Int32) = nI 2 from rfl, pk_mul, nI_add]
theorem ixc6 (a b : Nat) : nI a * (6 : Int32) + nI b = nI (6 * a + b) := by rw [show (6 : Int32) = nI 6 from rfl, pk_mul, nI_add, Nat.mul_comm]
theorem ixm6 (a b : Nat) : (6 : Int32) * nI a + nI b = nI (6 * a + b) := by rw [show (6 : Int32) = nI 6 from rfl, pk_mul, nI_add]
theorem ixc8 (a b : Nat) : nI a * (8 : Int32) + nI b = nI (8 * a + b) := by rw [show (8 : Int32) = nI 8 from rfl, pk_mul, nI_add, Nat.mul_comm]
theorem ixm8 (a b : Nat) : (8 : Int32) * nI a + nI b = nI (8 * a + b) := by rw [show (8 : Int32) = nI 8 from rfl, pk_mul, nI_add]
theorem ixm16 (a b : Nat) : (16 : Int32) * nI a + nI b = nI (16 * a + b) := by rw [show (16 : Int32) = nI 16 from rfl, pk_mul, nI_add]
theorem ixm60 (a b : Nat) : (60 : Int32) * nI a + nI b = nI (60 * a + b) := by rw [show (60 : Int32) = nI 60 from rfl, pk_mul, nI_add]
theorem m8 (a : Nat) : (8 : Int32) * nI a = nI (8 * a) := by rw [show (8 : Int32) = nI 8 from rfl, pk_mul]
theorem m6 (a : Nat) : (6 : Int32) * nI a = nI (6 * a) := by rw [show (6 : Int32) = nI 6 from rfl, pk_mul]
theorem op9 : Op9 Rel := by
  intro S T a1 h
  have h0 := h
  obtain ⟨nS, nP, nK, nQ, nT, nE, nN, nR, hS, hP, hK, hQ, ⟨hT, hTc, hTm⟩, ⟨hE, hEc, hEm⟩, hN, hR, r1, r2, r3, r4, r5, r6, r7, r8, r9, r10, r11, r12, r13, r14⟩ := h
  rcases rng a1 (n := nT) (by omega) with ⟨t, ht, rfl⟩ | hno
  · by_cases hf : nE = 24
    · refine ⟨-1, S, T, ?_, ?_, h0⟩
      · subst hf
        simp only [m_CX_select, m_CSelects_add, cT_e, hTc, hEc, thr_yes ht (show nT < 2 ^ 31 by omega), Option.bind_some, if_neg one0]
        rfl
      · subst hf
        simp only [m_MX_select, in_e, hTm, hEm, thr_yes ht (show nT < 2 ^ 31 by omega), Option.bind_some, if_neg one0]
        rfl
    · have hlt : nE < 24 := by omega
      have b1 : inb (nI nE) 24 = true := inb_nI (by omega) (by decide)
      have h1 : nI nE < (24 : Int32) := nI_lt (b := 24) hlt (by decide)
      have h2 : ¬ nI nE = (24 : Int32) := fun e => hf (nI_inj (b := 24) (by omega) (by decide) e)
      have en := nI_clamp (show nE < 2 ^ 31 by omega)
      obtain ⟨k0, -, -, ek0, hk0, -⟩ := r7 nE hlt
      have hz : (gA T 11 nE).toNatClampNeg = 0 := by rw [ek0, hk0 (Nat.le_refl _)]; rfl
      refine ⟨nI nE, sI (tB (tA S 9 (nI nE) (nI t)) 1 (nI nE) 0) 5 (nI nE + 1), sI (tA T 10 (nI nE) (nI t)) 4 (nI nE + 1), ?_, ?_, nS, nP, nK, nQ, nT, nE + 1, nN, nR, hS, hP, hK, hQ, ⟨hT, hTc, hTm⟩, ⟨hlt, nI_1 nE, nI_1 nE⟩, hN, hR, r1, r2, r3, r4, ?_, r6, ?_, ?_, ?_, ?_, r11, r12, r13, r14⟩
      · simp only [m_CX_select, m_CSelects_add, m_CChoices_nothing, cT_e, hTc, hEc, thr_yes ht (show nT < 2 ^ 31 by omega), Option.bind_some, if_neg one0, if_pos h1, b1, if_true]
      · simp only [m_MX_select, in_e, hTm, hEm, thr_yes ht (show nT < 2 ^ 31 by omega), Option.bind_some, if_neg one0, if_neg h2, b1, if_true, inc_dec]
      · intro q hq
        obtain ⟨a, b⟩ := r5 q hq
        refine ⟨a, b.imp (fun ⟨c1, c2, c3⟩ => ⟨c1, c2, fun s d hs hd => ?_⟩) (fun ⟨c1, c2⟩ => ⟨c1, c2.imp id (fun ⟨s, d, e1, e2, e3⟩ => ⟨s, d, by omega, e2, e3⟩)⟩)⟩
        by_cases e : s = nE
        · subst e
          have hd' : d < (gA T 11 s).toNatClampNeg := hd
          omega
        · exact c3 s d (by omega) hd
      · show RSelA (nE + 1) nQ (gA S 12) (gA S 13) (gA S 14) (gA S 15) (upd (gA T 10) (nI nE).toNatClampNeg (nI t)) (gA T 11) (gA T 12) (gA T 15) (gA T 13)
        rw [en]
        intro s hs
        obtain ⟨k, h3, h4, h5, h6, h7⟩ := r7 s hs
        refine ⟨k, h3, h4, h5, fun h => h6 (by omega), fun b hb => ?_⟩
        obtain ⟨c1, c2, c3, c4, c5⟩ := h7 b hb
        refine ⟨c1, c2, c3, c4, c5.imp id (fun ⟨d1, v, d2, d3, d4, d5⟩ => ⟨d1, v, d2, d3, ?_, d5⟩)⟩
        have hsn : s < nE := by
          rcases Nat.lt_or_ge s nE with h | h
          · exact h
          · have := h6 h; omega
        rw [upd_e, upd_e, if_neg (by omega), if_neg (by omega)]
        exact d4
      · show RSelT (nE + 1) nT (upd (gA S 9) (nI nE).toNatClampNeg (nI t)) (upd (gA T 10) (nI nE).toNatClampNeg (nI t))
        rw [en]
        intro s hs
        rw [upd_e, upd_e]
        by_cases e : s = nE
        · rw [if_pos e, if_pos e]; exact ⟨t, ht, rfl, rfl⟩
        · rw [if_neg e, if_neg e]; exact r8 s (by omega)
      · show RSelO (nE + 1) (vp_updL (gB S 1) (nI nE).toNatClampNeg 0) (gA T 16) (gA T 14)
        rw [en]
        intro s hs
        rcases r9 s hs with ⟨c1, c2⟩ | ⟨c1, c2, c3⟩
        · refine Or.inl ⟨c1, fun h => ?_⟩
          rw [updL_e]
          by_cases e : s = nE
          · rw [if_pos e]
          · rw [if_neg e]; exact c2 (by omega)
        · refine Or.inr ⟨c1, by omega, ?_⟩
          rw [updL_e, if_neg (by omega)]
          exact c3
      · intro s hs
        rcases r10 s hs with ⟨c1, c2⟩ | ⟨c1, r, b, c2, c3⟩
        · refine Or.inl ⟨c1, fun r b hr hb => ?_⟩
          by_cases e : r = nE
          · subst e
            have hb' : b < (gA T 11 r).toNatClampNeg := hb
            omega
          · exact c2 r b (by omega) hb
        · exact Or.inr ⟨c1, r, b, by omega, c3⟩
  · refine ⟨-1, S, T, ?_, ?_, h0⟩
    · simp only [m_CX_select, cT_e, hTc, thr_no hno, Option.bind_some, if_true]
    · simp only [m_MX_select, in_e, hTm, thr_no hno, Option.bind_some, if_true]
theorem op11 : Op11 Rel := by
  intro S T a1 a2 h
  have h0 := h
  obtain ⟨nS, nP, nK, nQ, nT, nE, nN, nR, hS, hP, hK, hQ, hT, ⟨hE, hEc, hEm⟩, hN, hR, r1, r2, r3, r4, r5, r6, r7, r8, r9, r10, r11, r12, r13, r14⟩ := h
  rcases rng a1 (n := nE) (by omega) with ⟨s, hs, rfl⟩ | hno
  · have b1 : inb (nI s) 24 = true := inb_nI (by omega) (by decide)
    have es := nI_clamp (show s < 2 ^ 31 by omega)
    refine ⟨1, tB S 1 (nI s) (ofV a2), tA (tA T 16 (nI s) (vp_nar .boolean 1)) 14 (nI s) a2, ?_, ?_, nS, nP, nK, nQ, nT, nE, nN, nR, hS, hP, hK, hQ, hT, ⟨hE, hEc, hEm⟩, hN, hR, r1, r2, r3, r4, r5, r6, r7, r8, ?_, r10, r11, r12, r13, r14⟩
    · simp only [m_CX_otherwise, m_CChoices_ofValue, cE_e, hEc, thr_yes hs (show nE < 2 ^ 31 by omega), Option.bind_some, if_neg one0, b1, if_true]
      rfl
    · simp only [m_MX_otherwise, in_e, hEm, thr_yes hs (show nE < 2 ^ 31 by omega), Option.bind_some, if_neg one0, b1, if_true]
    · show RSelO nE (vp_updL (gB S 1) (nI s).toNatClampNeg (ofV a2)) (upd (gA T 16) (nI s).toNatClampNeg 1) (upd (gA T 14) (nI s).toNatClampNeg a2)
      rw [es]
      intro r hr
      rw [updL_e, upd_e, upd_e]
      by_cases e : r = s
      · rw [if_pos e, if_pos e, if_pos e]; exact Or.inr ⟨rfl, by omega, rfl⟩
      · rw [if_neg e, if_neg e, if_neg e]; exact r9 r hr
  · refine ⟨0, S, T, ?_, ?_, h0⟩
    · simp only [m_CX_otherwise, cE_e, hEc, thr_no hno, Option.bind_some, if_true]
    · simp only [m_MX_otherwise, in_e, hEm, thr_no hno, Option.bind_some, if_true]
theorem op19 : Op19 Rel := by
  intro S T a1 a2 a3 h
  have h0 := h
  obtain ⟨nS, nP, nK, nQ, nT, nE, nN, nR, ⟨hS, hSc, hSm⟩, hP, hK, hQ, hT, hE, ⟨hN, hNc, hNm⟩, hR, r1, r2, r3, r4, r5, r6, r7, r8, r9, r10, r11, r12, r13, r14⟩ := h
  rcases rng a1 (n := nN) (by omega) with ⟨e, he, rfl⟩ | hno
  · rcases rng a2 (n := nS) (by omega) with ⟨s, hs, rfl⟩ | hno
    · by_cases hz : a3 &&& (255 : Int32) = 0
      · refine ⟨0, S, T, ?_, ?_, h0⟩
        · simp only [m_CX_change, cN_e, cS_e, hNc, hSc, thr_yes he (show nN < 2 ^ 31 by omega), thr_yes hs (show nS < 2 ^ 31 by omega), Option.bind_some, if_neg one0, if_pos hz]
        · simp only [m_MX_change, in_e, hNm, hSm, thr_yes he (show nN < 2 ^ 31 by omega), thr_yes hs (show nS < 2 ^ 31 by omega), Option.bind_some, if_neg one0, if_pos hz]
      · obtain ⟨w, hw, ew⟩ := pk_andE a3 (m := 255) 8 (by decide)
        obtain ⟨q1, k, hk, ekc, ekm, hk0, hk1⟩ := r12 e (by omega)
        have b1 : inb (nI e) 40 = true := inb_nI (by omega) (by decide)
        have ee := nI_clamp (show e < 2 ^ 31 by omega)
        rw [ew] at hz
        by_cases hf : k = 2
        · refine ⟨0, S, T, ?_, ?_, h0⟩
          · subst hf
            simp only [m_CX_change, m_CNeeds_addChange, cN_e, cS_e, hNc, hSc, thr_yes he (show nN < 2 ^ 31 by omega), thr_yes hs (show nS < 2 ^ 31 by omega), Option.bind_some, if_neg one0, ew, if_neg hz, b1, if_true, ee, ekc]
            rfl
          · subst hf
            simp only [m_MX_change, in_e, hNm, hSm, thr_yes he (show nN < 2 ^ 31 by omega), thr_yes hs (show nS < 2 ^ 31 by omega), Option.bind_some, if_neg one0, ew, if_neg hz, b1, if_true, ee, ekm]
            rfl
        · have hlt : k < 2 := by omega
          have b2 : inb (nI (2 * e + k)) 80 = true := inb_nI (by omega) (by decide)
          have ei := nI_clamp (show 2 * e + k < 2 ^ 31 by omega)
          have h1 : nI k < (2 : Int32) := nI_lt (b := 2) hlt (by decide)
          have h2 : ¬ nI k = (2 : Int32) := fun c => hf (nI_inj (b := 2) (by omega) (by decide) c)
          refine ⟨1, tA (tA (tA S 19 (nI (2 * e + k)) (nI s)) 20 (nI (2 * e + k)) (nI w)) 18 (nI e) (nI k + 1), tA (tA (tA T 22 (nI (2 * e + k)) (nI s)) 23 (nI (2 * e + k)) (nI w)) 21 (nI e) (nI k + 1), ?_, ?_, nS, nP, nK, nQ, nT, nE, nN, nR, ⟨hS, hSc, hSm⟩, hP, hK, hQ, hT, hE, ⟨hN, hNc, hNm⟩, hR, r1, r2, r3, r4, r5, r6, r7, r8, r9, r10, r11, ?_, r13, r14⟩
          · simp only [m_CX_change, m_CNeeds_addChange, cN_e, cS_e, hNc, hSc, thr_yes he (show nN < 2 ^ 31 by omega), thr_yes hs (show nS < 2 ^ 31 by omega), Option.bind_some, if_neg one0, ew, if_neg hz, b1, if_true, ee, ekc, if_pos h1, ixc2, b2]
            rfl
          · simp only [m_MX_change, in_e, hNm, hSm, thr_yes he (show nN < 2 ^ 31 by omega), thr_yes hs (show nS < 2 ^ 31 by omega), Option.bind_some, if_neg one0, ew, if_neg hz, b1, if_true, ee, ekm, if_neg h2, ixm2, b2]
          · show RNeed nN nT nS (gA S 16) (gA S 17) (upd (gA S 18) (nI e).toNatClampNeg (nI k + 1)) (upd (gA S 19) (nI (2 * e + k)).toNatClampNeg (nI s)) (upd (gA S 20) (nI (2 * e + k)).toNatClampNeg (nI w)) (gA T 19) (gA T 20) (upd (gA T 21) (nI e).toNatClampNeg (nI k + 1)) (upd (gA T 22) (nI (2 * e + k)).toNatClampNeg (nI s)) (upd (gA T 23) (nI (2 * e + k)).toNatClampNeg (nI w))
            rw [ee, ei]
            intro d hd
            obtain ⟨g1, k2, hk2, ekc2, ekm2, hk02, hk12⟩ := r12 d hd
            refine ⟨g1, ?_⟩
            by_cases c : d = e
            · subst c
              have ek : k2 = k := nI_inj (by omega) (by omega) (ekc2.symm.trans ekc)
              subst ek
              refine ⟨k2 + 1, by omega, ?_, ?_, fun h => by omega, fun j hj => ?_⟩
              · rw [upd_e, if_pos rfl, nI_1]
              · rw [upd_e, if_pos rfl, nI_1]
              · rw [upd_e, upd_e, upd_e, upd_e]
                by_cases cj : j = k2
                · subst cj
                  rw [if_pos rfl, if_pos rfl, if_pos rfl, if_pos rfl]
                  exact ⟨rfl, rfl, ⟨s, hs, rfl⟩, ⟨w, hw, rfl⟩⟩
                · rw [if_neg (by omega), if_neg (by omega), if_neg (by omega), if_neg (by omega)]
                  exact hk12 j (by omega)
            · refine ⟨k2, hk2, ?_, ?_, hk02, fun j hj => ?_⟩
              · rw [upd_e, if_neg c]; exact ekc2
              · rw [upd_e, if_neg c]; exact ekm2
              · rw [upd_e, upd_e, upd_e, upd_e, if_neg (by omega), if_neg (by omega), if_neg (by omega), if_neg (by omega)]
                exact hk12 j hj
    · refine ⟨0, S, T, ?_, ?_, h0⟩
      · simp only [m_CX_change, cN_e, cS_e, hNc, hSc, thr_yes he (show nN < 2 ^ 31 by omega), thr_no hno, Option.bind_some, if_neg one0, if_true]
      · simp only [m_MX_change, in_e, hNm, hSm, thr_yes he (show nN < 2 ^ 31 by omega), thr_no hno, Option.bind_some, if_neg one0, if_true]
  · refine ⟨0, S, T, ?_, ?_, h0⟩
    · simp only [m_CX_change, cN_e, hNc, thr_no hno, Option.bind_some, if_true]
    · simp only [m_MX_change, in_e, hNm, thr_no hno, Option.bind_some, if_true]
