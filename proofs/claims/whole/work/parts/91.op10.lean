theorem op10 : Op10 Rel := by
  intro S T a1 a2 a3 a4 h hB
  have h0 := h
  obtain ⟨nS, nP, nK, nQ, nT, nE, nN, nR, hall⟩ := h
  have hall' := hall
  obtain ⟨hS, hP, hK, ⟨hQ, hQc, hQm⟩, hT, ⟨hE, hEc, hEm⟩, hN, hR, r1, r2, r3, r4, r5, r6, r7, r8, r9, r10, r11, r12, r13, r14⟩ := hall'
  have h01 : a3 = 0 ∨ a3 = 1 := by simpa [isB] using hB
  rcases rng a1 (n := nE) (by omega) with ⟨s, hs, rfl⟩ | hno
  · have ts := thr_yes hs (show nE < 2 ^ 31 by omega)
    rcases rng a2 (n := nQ) (by omega) with ⟨q, hq, rfl⟩ | hno
    · have tq := thr_yes hq (show nQ < 2 ^ 31 by omega)
      obtain ⟨k, hk, ekc, ekm, hk0, hkb⟩ := r7 s (by omega)
      have b1 : inb (nI s) 24 = true := inb_nI (by omega) (by decide)
      have b3 : inb (nI q) 40 = true := inb_nI (by omega) (by decide)
      have es := nI_clamp (show s < 2 ^ 31 by omega)
      have eq := nI_clamp (show q < 2 ^ 31 by omega)
      -- may a SELECT nest here? the class's answer
      have may : (∃ v : Nat, v < s ∧ a4 = nI v ∧ m_CSelects_mayNest S (nI s) a4 = some (b2 (gA T 10 v = gA T 10 s ∧ gA S 11 v = 0 ∧ gA S 10 s = 0))) ∨ ((a4 < 0 ∨ nI s ≤ a4) ∧ m_CSelects_mayNest S (nI s) a4 = some 0) := by
        rcases rng a4 (n := s) (by omega) with ⟨v, hv, rfl⟩ | hno
        · left
          refine ⟨v, hv, rfl, ?_⟩
          have d1 : ¬ nI v < 0 := nI_pos (by omega)
          have d2 : ¬ nI s ≤ nI v := nI_ge hv (by omega)
          obtain ⟨t1, -, et1, em1⟩ := r8 v (by omega)
          obtain ⟨t2, -, et2, em2⟩ := r8 s hs
          have ev := nI_clamp (show v < 2 ^ 31 by omega)
          simp only [m_CSelects_mayNest, if_neg d1, if_neg d2, inb_nI (show v < 24 by omega) (show (24 : Nat) < 2 ^ 31 by omega), b1, if_true, es, ev]
          rw [et1, et2, em1, em2]
          by_cases c1 : nI t1 = nI t2
          · rw [if_pos c1]
            by_cases c2 : gA S 11 v = 0
            · rw [if_pos c2]
              by_cases c3 : gA S 10 s = 0
              · rw [if_pos c3, b2_t ⟨c1, c2, c3⟩]
              · rw [if_neg c3, b2_f (fun c => c3 c.2.2)]
            · rw [if_neg c2, b2_f (fun c => c2 c.2.1)]
          · rw [if_neg c1, b2_f (fun c => c1 c.1)]
        · right
          refine ⟨hno, ?_⟩
          unfold m_CSelects_mayNest
          by_cases d1 : a4 < 0
          · rw [if_pos d1]
          · rw [if_neg d1, if_pos (hno.resolve_left d1)]
      by_cases hf : k = 8
      · -- full
        subst hf
        have hadd : m_CSelects_addBranch S (nI s) (nI q) a3 a4 = some (0, S) := by
          simp only [m_CSelects_addBranch, b1, if_true, es, ekc]
          rfl
        refine ⟨0, S, T, ?_, ?_, h0⟩
        · simp only [m_CX_branch, cE_e, hEc, ts, cQ_e, hQc, tq, Option.bind_some, if_neg one0, hadd, if_true]
          rcases h01 with rfl | rfl
          · rw [if_pos rfl]
          · rw [if_neg one0]
            rcases may with ⟨v, _, _, e⟩ | ⟨_, e⟩
            · rw [e, Option.bind_some]
              by_cases c : b2 (gA T 10 v = gA T 10 s ∧ gA S 11 v = 0 ∧ gA S 10 s = 0) = 0
              · rw [if_pos c]
              · rw [if_neg c]
            · rw [e, Option.bind_some, if_pos rfl]
        · simp only [m_MX_branch, in_e, hEm, ts, hQm, tq, Option.bind_some, if_neg one0, b1, if_true, es, ekm]
          rfl
      · have hlt : k < 8 := by omega
        have h1 : nI k < (8 : Int32) := nI_lt (b := 8) hlt (by decide)
        have h2 : ¬ nI k = (8 : Int32) := fun e => hf (nI_inj (b := 8) (by omega) (by decide) e)
        have b2' : inb (nI (8 * s + k)) 192 = true := inb_nI (by omega) (by decide)
        have ei := nI_clamp (show 8 * s + k < 2 ^ 31 by omega)
        rcases h01 with rfl | rfl
        · -- a VALUE
          obtain ⟨g1, g2, g3, g4⟩ := branch_rel hall (z := 0) (x := a4) hs hq hlt ekc ekm (Or.inl rfl) (gA S 10) (gA S 11) (Or.inl ⟨rfl, rfl, rfl⟩)
          refine ⟨1, tA (tA (tA (tA (tA S 13 (nI (8 * s + k)) (nI q)) 14 (nI (8 * s + k)) 0) 15 (nI (8 * s + k)) a4) 12 (nI s) (nI k + 1)) 6 (nI q) 1, tA (tA (tA (tA T 12 (nI (8 * s + k)) (nI q)) 15 (nI (8 * s + k)) 0) 13 (nI (8 * s + k)) a4) 11 (nI s) (nI k + 1), ?_, ?_, nS, nP, nK, nQ, nT, nE, nN, nR, hS, hP, hK, ⟨hQ, hQc, hQm⟩, hT, ⟨hE, hEc, hEm⟩, hN, hR, r1, r2, r3, r4, ?_, r6, ?_, r8, r9, ?_, ?_, r12, r13, r14⟩
          · simp only [m_CX_branch, cE_e, hEc, ts, cQ_e, hQc, tq, Option.bind_some, if_neg one0, if_true, m_CSelects_addBranch, b1, es, ekc, if_pos h1, m_CSelects_place, ixc8, b2', b3]
            rfl
          · simp only [m_MX_branch, in_e, hEm, ts, hQm, tq, Option.bind_some, if_neg one0, b1, if_true, es, ekm, if_neg h2, ixm8, b2']
            rfl
          · show RUsed nE (upd (gA S 6) (nI q).toNatClampNeg 1) (gA T 18) (upd (gA T 11) (nI s).toNatClampNeg (nI k + 1)) (upd (gA T 12) (nI (8 * s + k)).toNatClampNeg (nI q))
            rw [eq, es, ei]; exact g1
          · show RSelA nE nQ (upd (gA S 12) (nI s).toNatClampNeg (nI k + 1)) (upd (gA S 13) (nI (8 * s + k)).toNatClampNeg (nI q)) (upd (gA S 14) (nI (8 * s + k)).toNatClampNeg 0) (upd (gA S 15) (nI (8 * s + k)).toNatClampNeg a4) (gA T 10) (upd (gA T 11) (nI s).toNatClampNeg (nI k + 1)) (upd (gA T 12) (nI (8 * s + k)).toNatClampNeg (nI q)) (upd (gA T 15) (nI (8 * s + k)).toNatClampNeg 0) (upd (gA T 13) (nI (8 * s + k)).toNatClampNeg a4)
            rw [es, ei]; exact g2
          · show RSelW nE (gA S 10) (upd (gA T 11) (nI s).toNatClampNeg (nI k + 1)) (upd (gA T 15) (nI (8 * s + k)).toNatClampNeg 0) (upd (gA T 13) (nI (8 * s + k)).toNatClampNeg a4)
            rw [es, ei]; exact g3
          · show RSelH (gA S 11) (upd (gA T 11) (nI s).toNatClampNeg (nI k + 1)) (upd (gA T 15) (nI (8 * s + k)).toNatClampNeg 0)
            rw [es, ei]; exact g4
        · -- a SELECT
          rcases may with ⟨v, hv, rfl, em⟩ | ⟨hno, em⟩
          · have tv := thr_yes hv (show s < 2 ^ 31 by omega)
            have b4 : inb (nI v) 24 = true := inb_nI (by omega) (by decide)
            have ev := nI_clamp (show v < 2 ^ 31 by omega)
            obtain ⟨k2, hk2, -, ek2, -⟩ := r7 v (by omega)
            have eN := nestM (T := T) (show v < 24 by omega) hk2 ek2
            have eW := withinM (T := T) (s := s) hE hEm (cnt_of r7)
            by_cases c1 : gA T 10 v = gA T 10 s
            · by_cases c2 : gA S 11 v = 0
              · have n0 : ∀ b, b < (gA T 11 v).toNatClampNeg → gA T 15 (8 * v + b) = 0 := by
                  rcases r11 v (by omega) with ⟨_, c⟩ | ⟨c, _⟩
                  · exact c
                  · rw [c] at c2; exact absurd c2 one0
                rw [b2_f (fun ⟨b, d1, d2⟩ => d2 (n0 b (by rw [ek2, nI_clamp (by omega)]; exact d1)))] at eN
                by_cases c3 : gA S 10 s = 0
                · have w0 : ∀ r b, r < nE → b < (gA T 11 r).toNatClampNeg → ¬ gA T 15 (8 * r + b) = 0 → ¬ gA T 13 (8 * r + b) = nI s := by
                    rcases r10 s (by omega) with ⟨_, c⟩ | ⟨c, _⟩
                    · exact c
                    · rw [c] at c3; exact absurd c3 one0
                  rw [b2_f (fun ⟨r, b, d1, d2, d3, d4⟩ => w0 r b d1 d2 d3 d4)] at eW
                  rw [b2_t ⟨c1, c2, c3⟩] at em
                  obtain ⟨g1, g2, g3, g4⟩ := branch_rel hall (z := 1) (x := nI v) hs hq hlt ekc ekm (Or.inr ⟨rfl, v, hv, rfl, c1, n0, w0⟩) (upd (gA S 10) v 1) (upd (gA S 11) s 1) (Or.inr ⟨rfl, v, rfl, by omega, rfl, rfl⟩)
                  refine ⟨1, tA (tA (tA (tA (tA (tA (tA S 13 (nI (8 * s + k)) (nI q)) 14 (nI (8 * s + k)) 1) 15 (nI (8 * s + k)) (nI v)) 12 (nI s) (nI k + 1)) 11 (nI s) 1) 10 (nI v) 1) 6 (nI q) 1, tA (tA (tA (tA T 12 (nI (8 * s + k)) (nI q)) 15 (nI (8 * s + k)) 1) 13 (nI (8 * s + k)) (nI v)) 11 (nI s) (nI k + 1), ?_, ?_, nS, nP, nK, nQ, nT, nE, nN, nR, hS, hP, hK, ⟨hQ, hQc, hQm⟩, hT, ⟨hE, hEc, hEm⟩, hN, hR, r1, r2, r3, r4, ?_, r6, ?_, r8, r9, ?_, ?_, r12, r13, r14⟩
                  · simp only [m_CX_branch, cE_e, hEc, ts, cQ_e, hQc, tq, Option.bind_some, if_neg one0, if_true, em, m_CSelects_addBranch, b1, es, ekc, if_pos h1, m_CSelects_place, ixc8, b2', b3, b4]
                    rfl
                  · simp only [m_MX_branch, in_e, hEm, ts, hQm, tq, Option.bind_some, if_neg one0, b1, if_true, es, ekm, if_neg h2, ixm8, b2', tv, b4, ev, if_pos c1, eN, eW]
                    rfl
                  · show RUsed nE (upd (gA S 6) (nI q).toNatClampNeg 1) (gA T 18) (upd (gA T 11) (nI s).toNatClampNeg (nI k + 1)) (upd (gA T 12) (nI (8 * s + k)).toNatClampNeg (nI q))
                    rw [eq, es, ei]; exact g1
                  · show RSelA nE nQ (upd (gA S 12) (nI s).toNatClampNeg (nI k + 1)) (upd (gA S 13) (nI (8 * s + k)).toNatClampNeg (nI q)) (upd (gA S 14) (nI (8 * s + k)).toNatClampNeg 1) (upd (gA S 15) (nI (8 * s + k)).toNatClampNeg (nI v)) (gA T 10) (upd (gA T 11) (nI s).toNatClampNeg (nI k + 1)) (upd (gA T 12) (nI (8 * s + k)).toNatClampNeg (nI q)) (upd (gA T 15) (nI (8 * s + k)).toNatClampNeg 1) (upd (gA T 13) (nI (8 * s + k)).toNatClampNeg (nI v))
                    rw [es, ei]; exact g2
                  · show RSelW nE (upd (gA S 10) (nI v).toNatClampNeg 1) (upd (gA T 11) (nI s).toNatClampNeg (nI k + 1)) (upd (gA T 15) (nI (8 * s + k)).toNatClampNeg 1) (upd (gA T 13) (nI (8 * s + k)).toNatClampNeg (nI v))
                    rw [es, ei, ev]; exact g3
                  · show RSelH (upd (gA S 11) (nI s).toNatClampNeg 1) (upd (gA T 11) (nI s).toNatClampNeg (nI k + 1)) (upd (gA T 15) (nI (8 * s + k)).toNatClampNeg 1)
                    rw [es, ei]; exact g4
                · have w1 : ∃ r b, r < nE ∧ b < (gA T 11 r).toNatClampNeg ∧ ¬ gA T 15 (8 * r + b) = 0 ∧ gA T 13 (8 * r + b) = nI s := by
                    rcases r10 s (by omega) with ⟨c, _⟩ | ⟨_, c⟩
                    · exact absurd c c3
                    · exact c
                  rw [b2_t w1] at eW
                  rw [b2_f (fun c => c3 c.2.2)] at em
                  refine ⟨0, S, T, ?_, ?_, h0⟩
                  · simp only [m_CX_branch, cE_e, hEc, ts, cQ_e, hQc, tq, Option.bind_some, if_neg one0, if_true, em]
                  · simp only [m_MX_branch, in_e, hEm, ts, hQm, tq, Option.bind_some, if_neg one0, b1, if_true, es, ekm, if_neg h2, tv, b4, ev, if_pos c1, eN, eW]
              · have n1 : ∃ b, b < k2 ∧ ¬ gA T 15 (8 * v + b) = 0 := by
                  rcases r11 v (by omega) with ⟨c, _⟩ | ⟨_, b, d1, d2⟩
                  · exact absurd c c2
                  · exact ⟨b, by rw [ek2, nI_clamp (by omega)] at d1; exact d1, d2⟩
                rw [b2_t n1] at eN
                rw [b2_f (fun c => c2 c.2.1)] at em
                refine ⟨0, S, T, ?_, ?_, h0⟩
                · simp only [m_CX_branch, cE_e, hEc, ts, cQ_e, hQc, tq, Option.bind_some, if_neg one0, if_true, em]
                · simp only [m_MX_branch, in_e, hEm, ts, hQm, tq, Option.bind_some, if_neg one0, b1, if_true, es, ekm, if_neg h2, tv, b4, ev, if_pos c1, eN]
            · rw [b2_f (fun c => c1 c.1)] at em
              refine ⟨0, S, T, ?_, ?_, h0⟩
              · simp only [m_CX_branch, cE_e, hEc, ts, cQ_e, hQc, tq, Option.bind_some, if_neg one0, if_true, em]
              · simp only [m_MX_branch, in_e, hEm, ts, hQm, tq, Option.bind_some, if_neg one0, b1, if_true, es, ekm, if_neg h2, tv, b4, ev, if_neg c1]
          · refine ⟨0, S, T, ?_, ?_, h0⟩
            · simp only [m_CX_branch, cE_e, hEc, ts, cQ_e, hQc, tq, Option.bind_some, if_neg one0, if_true, em]
            · simp only [m_MX_branch, in_e, hEm, ts, hQm, tq, Option.bind_some, if_neg one0, b1, if_true, es, ekm, if_neg h2, thr_no hno]
    · refine ⟨0, S, T, ?_, ?_, h0⟩
      · simp only [m_CX_branch, cE_e, hEc, ts, cQ_e, hQc, thr_no hno, Option.bind_some, if_neg one0, if_true]
      · simp only [m_MX_branch, in_e, hEm, ts, hQm, thr_no hno, Option.bind_some, if_neg one0, if_true]
  · refine ⟨0, S, T, ?_, ?_, h0⟩
    · simp only [m_CX_branch, cE_e, hEc, thr_no hno, Option.bind_some, if_true]
    · simp only [m_MX_branch, in_e, hEm, thr_no hno, Option.bind_some, if_true]
