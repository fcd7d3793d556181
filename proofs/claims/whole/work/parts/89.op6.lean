theorem cnt_of {nE nQ : Nat} {ck cc cn cv mt mk mc mn mv : Nat → Int32} (h : RSelA nE nQ ck cc cn cv mt mk mc mn mv) : RCnt mk := fun s hs => by
  obtain ⟨k, h1, -, h3, -⟩ := h s hs
  exact ⟨k, h1, h3⟩
/-- the last part of asks, in the reference -/
def asksT (T : StM) (x1 x2 x3 x4 : Int32) : Option (Int32 × StM) :=
  if inb x1 40 = true then if (gA T 6 x1.toNatClampNeg) = 6 then some (0, T)
    else (m_MX_isUsed T x1).bind fun q38 =>
    if q38 = 0 then (L_MX_asks_95 T x1 x2 x3 x4 (((6 : Int32) * x1) + (gA T 6 x1.toNatClampNeg)) 100 ((6 : Int32) * x1)).bind fun o39 => exK o39 fun y40 =>
    if inb (((6 : Int32) * x1) + (gA T 6 x1.toNatClampNeg)) 240 = true then some (1, tA (tA (tA (tA T 9 (((6 : Int32) * x1) + (gA T 6 x1.toNatClampNeg)) (vp_nar .boolean x2)) 7 (((6 : Int32) * x1) + (gA T 6 x1.toNatClampNeg)) x3) 8 (((6 : Int32) * x1) + (gA T 6 x1.toNatClampNeg)) x4) 6 x1 ((gA T 6 x1.toNatClampNeg) + (1 : Int32))) else none
    else some (0, T) else none
theorem asks_tail {S : StC} {T : StM} {nS nP nK nQ nT nE nN nR : Nat} (h : RelN S T nS nP nK nQ nT nE nN nR) {q ax w v : Nat} (hq : q < nQ) (hax : ax = 0 ∧ w < nS ∨ ax = 1 ∧ w < 8) (hv : v < 8) : ∃ r S' T', isB r = true ∧ m_CConditions_addAsking S (nI q) (nI (128 * ax + 8 * w + v)) = some (r, S') ∧ asksT T (nI q) (nI ax) (nI w) (nI v) = some (r, T') ∧ Rel S' T' := by
  have h0 : Rel S T := ⟨nS, nP, nK, nQ, nT, nE, nN, nR, h⟩
  obtain ⟨⟨hS, hSc, hSm⟩, hP, hK, ⟨hQ, hQc, hQm⟩, hT, ⟨hE, hEc, hEm⟩, hN, hR, r1, r2, r3, r4, r5, r6, r7, r8, r9, r10, r11, r12, r13, r14⟩ := h
  obtain ⟨k, hk, ekc, ekm, hk0, hkj⟩ := r4 q (by omega)
  obtain ⟨u1, u2⟩ := r5 q (by omega)
  have eu := isUsedM hE hEm (cnt_of r7) (show q < 40 by omega) u1
  have b1 : inb (nI q) 40 = true := inb_nI (by omega) (by decide)
  have eq := nI_clamp (show q < 2 ^ 31 by omega)
  have hw16 : w < 16 := by omega
  by_cases hf : k = 6
  · subst hf
    refine ⟨0, S, T, rfl, ?_, ?_, h0⟩
    · simp only [m_CConditions_addAsking, b1, if_true, eq, ekc]
      rcases u2 with ⟨c1, -⟩ | ⟨c1, -⟩
      · rw [c1, if_pos rfl]; rfl
      · rw [c1, if_neg one0]
    · simp only [asksT, b1, if_true, eq, ekm]
      rfl
  · have hlt : k < 6 := by omega
    have h1 : nI k < (6 : Int32) := nI_lt (b := 6) hlt (by decide)
    have h2 : ¬ nI k = (6 : Int32) := fun e => hf (nI_inj (b := 6) (by omega) (by decide) e)
    rcases u2 with ⟨c1, c2, c3⟩ | ⟨c1, c2⟩
    · have eu0 : m_MX_isUsed T (nI q) = some 0 := by
        rw [eu, b2_f]
        rintro (h | ⟨s, b, g1, g2, g3⟩)
        · rw [c2] at h; exact absurd h (by decide)
        · exact c3 s b g1 g2 g3
      obtain ⟨p1, p2⟩ := dupC_l S q k (nI (128 * ax + 8 * w + v)) (by omega) hk k 0 100 (by omega) (by omega) (by omega)
      obtain ⟨m1, m2⟩ := dupM_l T q k (nI q) (nI ax) (nI w) (nI v) (by omega) hk k 0 100 (by omega) (by omega) (by omega)
      have hd : ∀ j, j < k → (gA S 5 (6 * q + j) = nI (128 * ax + 8 * w + v) ↔ gA T 9 (6 * q + j) = nI ax ∧ gA T 7 (6 * q + j) = nI w ∧ gA T 8 (6 * q + j) = nI v) := by
        intro j hj
        obtain ⟨w', v', g1, g2, g3, g4⟩ := hkj j hj
        rw [g2, g3]
        rcases g4 with ⟨g5, g6, g7⟩ | ⟨g5, g6, g7⟩
        · rw [g5, g7]
          constructor
          · intro e
            have e' := nI_inj (by omega) (by omega) e
            have : ax = 0 ∧ w' = w ∧ v' = v := by omega
            obtain ⟨rfl, rfl, rfl⟩ := this
            exact ⟨rfl, rfl, rfl⟩
          · rintro ⟨e1, e2, e3⟩
            have e1' : 0 = ax := nI_inj (a := 0) (by omega) (by omega) e1
            have e2' := nI_inj (by omega) (by omega) e2
            have e3' := nI_inj (by omega) (by omega) e3
            rw [← e1', e2', e3']
            congr 1
            omega
        · rw [g5, g7]
          constructor
          · intro e
            have e' := nI_inj (by omega) (by omega) e
            have : ax = 1 ∧ w' = w ∧ v' = v := by omega
            obtain ⟨rfl, rfl, rfl⟩ := this
            exact ⟨rfl, rfl, rfl⟩
          · rintro ⟨e1, e2, e3⟩
            have e1' : 1 = ax := nI_inj (a := 1) (by omega) (by omega) e1
            have e2' := nI_inj (by omega) (by omega) e2
            have e3' := nI_inj (by omega) (by omega) e3
            rw [← e1', e2', e3']
      have b2' : inb (nI (6 * q + k)) 240 = true := inb_nI (by omega) (by decide)
      have ei := nI_clamp (show 6 * q + k < 2 ^ 31 by omega)
      by_cases hx : ∃ j, 0 ≤ j ∧ j < k ∧ gA S 5 (6 * q + j) = nI (128 * ax + 8 * w + v)
      · refine ⟨0, S, T, rfl, ?_, ?_, h0⟩
        · simp only [m_CConditions_addAsking, b1, if_true, eq, ekc, c1, if_pos h1]
          rw [show L_CConditions_addAsking_27 S (nI q) (nI (128 * ax + 8 * w + v)) (nI k) 100 0 = _ from p2 hx]
          rfl
        · simp only [asksT, b1, if_true, eq, ekm, if_neg h2, eu0, Option.bind_some, m6, nI_add]
          rw [show nI (6 * q) = nI (6 * q + 0) from rfl, m2 (by
            obtain ⟨j, j1, j2, j3⟩ := hx
            exact ⟨j, j1, j2, (hd j j2).mp j3⟩)]
          rfl
      · have hy : ∀ j, 0 ≤ j → j < k → ¬ gA S 5 (6 * q + j) = nI (128 * ax + 8 * w + v) := fun j j1 j2 j3 => hx ⟨j, j1, j2, j3⟩
        have hz : ∀ j, 0 ≤ j → j < k → ¬ (gA T 9 (6 * q + j) = nI ax ∧ gA T 7 (6 * q + j) = nI w ∧ gA T 8 (6 * q + j) = nI v) := fun j j1 j2 j3 => hy j j1 j2 ((hd j j2).mpr j3)
        have en : vp_nar .boolean (nI ax) = nI ax := by
          rcases hax with ⟨e, -⟩ | ⟨e, -⟩ <;> rw [e] <;> rfl
        refine ⟨1, tA (tA S 5 (nI (6 * q + k)) (nI (128 * ax + 8 * w + v))) 4 (nI q) (nI k + 1), tA (tA (tA (tA T 9 (nI (6 * q + k)) (nI ax)) 7 (nI (6 * q + k)) (nI w)) 8 (nI (6 * q + k)) (nI v)) 6 (nI q) (nI k + 1), rfl, ?_, ?_, nS, nP, nK, nQ, nT, nE, nN, nR, ⟨hS, hSc, hSm⟩, hP, hK, ⟨hQ, hQc, hQm⟩, hT, ⟨hE, hEc, hEm⟩, hN, hR, r1, r2, r3, ?_, r5, r6, r7, r8, r9, r10, r11, r12, r13, r14⟩
        · simp only [m_CConditions_addAsking, b1, if_true, eq, ekc, c1, if_pos h1]
          rw [show L_CConditions_addAsking_27 S (nI q) (nI (128 * ax + 8 * w + v)) (nI k) 100 0 = _ from p1 hy, ixc6, b2']
          rfl
        · simp only [asksT, b1, if_true, eq, ekm, if_neg h2, eu0, Option.bind_some, m6, nI_add, b2', en]
          rw [show nI (6 * q) = nI (6 * q + 0) from rfl, m1 hz]
          rfl
        · show RCond nS nQ (upd (gA S 4) (nI q).toNatClampNeg (nI k + 1)) (upd (gA S 5) (nI (6 * q + k)).toNatClampNeg (nI (128 * ax + 8 * w + v))) (upd (gA T 6) (nI q).toNatClampNeg (nI k + 1)) (upd (gA T 7) (nI (6 * q + k)).toNatClampNeg (nI w)) (upd (gA T 8) (nI (6 * q + k)).toNatClampNeg (nI v)) (upd (gA T 9) (nI (6 * q + k)).toNatClampNeg (nI ax))
          rw [eq, ei]
          intro d hd4
          obtain ⟨k2, hk2, ekc2, ekm2, hk02, hkj2⟩ := r4 d hd4
          by_cases c : d = q
          · subst c
            have ek : k2 = k := nI_inj (by omega) (by omega) (ekc2.symm.trans ekc)
            subst ek
            refine ⟨k2 + 1, by omega, ?_, ?_, fun h => by omega, fun j hj => ?_⟩
            · rw [upd_e, if_pos rfl, nI_1]
            · rw [upd_e, if_pos rfl, nI_1]
            · rw [upd_e, upd_e, upd_e, upd_e]
              by_cases cj : j = k2
              · subst cj
                rw [if_pos rfl, if_pos rfl, if_pos rfl, if_pos rfl]
                refine ⟨w, v, hv, rfl, rfl, ?_⟩
                rcases hax with ⟨e, e2⟩ | ⟨e, e2⟩
                · subst e; exact Or.inl ⟨rfl, e2, by congr 1; omega⟩
                · subst e; exact Or.inr ⟨rfl, e2, rfl⟩
              · rw [if_neg (by omega), if_neg (by omega), if_neg (by omega), if_neg (by omega)]
                exact hkj2 j (by omega)
          · refine ⟨k2, hk2, ?_, ?_, hk02, fun j hj => ?_⟩
            · rw [upd_e, if_neg c]; exact ekc2
            · rw [upd_e, if_neg c]; exact ekm2
            · rw [upd_e, upd_e, upd_e, upd_e, if_neg (by omega), if_neg (by omega), if_neg (by omega), if_neg (by omega)]
              exact hkj2 j hj
    · have eu1 : m_MX_isUsed T (nI q) = some 1 := by rw [eu, b2_t c2]
      refine ⟨0, S, T, rfl, ?_, ?_, h0⟩
      · simp only [m_CConditions_addAsking, b1, if_true, eq, ekc, c1, if_neg one0]
      · simp only [asksT, b1, if_true, eq, ekm, if_neg h2, eu1, Option.bind_some, if_neg one0]
theorem op6 : Op6 Rel := by
  intro S T a1 a2 a3 a4 h hB
  have h0 := h
  obtain ⟨nS, nP, nK, nQ, nT, nE, nN, nR, hall⟩ := h
  have hall' := hall
  obtain ⟨⟨hS, hSc, hSm⟩, hP, hK, ⟨hQ, hQc, hQm⟩, -⟩ := hall'
  have h01 : a2 = 0 ∨ a2 = 1 := by simpa [isB] using hB
  rcases rng a1 (n := nQ) (by omega) with ⟨q, hq, rfl⟩ | hno
  · have tq := thr_yes hq (show nQ < 2 ^ 31 by omega)
    rcases rng a4 (n := 8) (by omega) with ⟨v, hv, rfl⟩ | hno
    · have tv : thr (nI v) (nI 8) = some 1 := thr_yes hv (by omega)
      have tv' : thr (nI v) 8 = some 1 := tv
      rcases h01 with rfl | rfl
      · rcases rng a3 (n := nS) (by omega) with ⟨w, hw, rfl⟩ | hno
        · have tw := thr_yes hw (show nS < 2 ^ 31 by omega)
          obtain ⟨r, S', T', g0, g1, g2, g3⟩ := asks_tail hall hq (ax := 0) (w := w) (v := v) (Or.inl ⟨rfl, hw⟩) hv
          refine ⟨r, S', T', ?_, ?_, g3⟩
          · simp only [m_CX_asks, cQ_e, hQc, tq, cVa_e, tv, Option.bind_some, if_neg one0, if_true, cS_e, hSc, tw, m_CAskings_codeOf]
            rw [show (0 : Int32) + nI w * 8 + nI v = nI (128 * 0 + 8 * w + v) by rw [show (0 : Int32) = nI 0 from rfl, show (8 : Int32) = nI 8 from rfl, pk_mul, nI_add, nI_add]; congr 1; omega, g1, Option.bind_some, if_pos g0]
          · simp only [m_MX_asks, in_e, hQm, tq, Option.bind_some, if_neg one0, if_true, hSm, tw, tv']
            exact g2
        · refine ⟨0, S, T, ?_, ?_, h0⟩
          · simp only [m_CX_asks, cQ_e, hQc, tq, cVa_e, tv, Option.bind_some, if_neg one0, if_true, cS_e, hSc, thr_no hno]
          · simp only [m_MX_asks, in_e, hQm, tq, Option.bind_some, if_neg one0, if_true, hSm, thr_no hno]
      · rcases rng a3 (n := 8) (by omega) with ⟨w, hw, rfl⟩ | hno
        · have tw : thr (nI w) (nI 8) = some 1 := thr_yes hw (by omega)
          have tw' : thr (nI w) 8 = some 1 := tw
          obtain ⟨r, S', T', g0, g1, g2, g3⟩ := asks_tail hall hq (ax := 1) (w := w) (v := v) (Or.inr ⟨rfl, hw⟩) hv
          refine ⟨r, S', T', ?_, ?_, g3⟩
          · simp only [m_CX_asks, cQ_e, hQc, tq, cVa_e, tv, Option.bind_some, if_neg one0, cAx_e, tw, m_CAskings_codeOf]
            rw [show (128 : Int32) + nI w * 8 + nI v = nI (128 * 1 + 8 * w + v) by rw [show (128 : Int32) = nI 128 from rfl, show (8 : Int32) = nI 8 from rfl, pk_mul, nI_add, nI_add]; congr 1; omega, g1, Option.bind_some, if_pos g0]
          · simp only [m_MX_asks, in_e, hQm, tq, Option.bind_some, if_neg one0, tw', tv']
            exact g2
        · refine ⟨0, S, T, ?_, ?_, h0⟩
          · simp only [m_CX_asks, cQ_e, hQc, tq, cVa_e, tv, Option.bind_some, if_neg one0, if_true, cAx_e, thr_no hno]
          · have tw' : thr a3 8 = some 0 := thr_no hno
            simp only [m_MX_asks, in_e, hQm, tq, Option.bind_some, if_neg one0, if_true, tw']
    · have tv' : thr a4 8 = some 0 := thr_no hno
      refine ⟨0, S, T, ?_, ?_, h0⟩
      · simp only [m_CX_asks, cQ_e, hQc, tq, cVa_e, thr_no hno, Option.bind_some, if_neg one0, if_true]
      · simp only [m_MX_asks, in_e, hQm, tq, Option.bind_some, if_neg one0, if_true, tv']
        rcases h01 with rfl | rfl
        · simp only [if_true]
          rcases rng a3 (n := nS) (by omega) with ⟨w, hw, rfl⟩ | hno
          · rw [hSm, thr_yes hw (by omega)]; rfl
          · rw [hSm, thr_no hno]; rfl
        · simp only [if_neg one0]
          rcases rng a3 (n := 8) (by omega) with ⟨w, hw, rfl⟩ | hno
          · rw [show thr (nI w) 8 = some 1 from thr_yes hw (show (8 : Nat) < 2 ^ 31 by omega)]; rfl
          · rw [show thr a3 8 = some 0 from thr_no hno]; rfl
  · refine ⟨0, S, T, ?_, ?_, h0⟩
    · simp only [m_CX_asks, cQ_e, hQc, thr_no hno, Option.bind_some, if_true]
    · simp only [m_MX_asks, in_e, hQm, thr_no hno, Option.bind_some, if_true]
