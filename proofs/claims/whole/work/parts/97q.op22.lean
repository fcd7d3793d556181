theorem op22 : Op22 Rel := by
  intro S T a1 a2 h
  have h0 := h
  obtain ⟨nS, nP, nK, nQ, nT, nE, nN, nR, hall⟩ := h
  obtain ⟨hb, hp⟩ := rel_B hall
  obtain ⟨hS, hP, ⟨hK, hKc, hKm⟩, hQ, ⟨hT, hTc, hTm⟩, -⟩ := id hb
  rcases rng a1 (n := nT) (by omega) with ⟨t, ht, rfl⟩ | hno
  · have tt := thr_yes ht (show nT < 2 ^ 31 by omega)
    rcases rng a2 (n := nK) (by omega) with ⟨c, hc, rfl⟩ | hno
    · have tc := thr_yes hc (show nK < 2 ^ 31 by omega)
      obtain ⟨g8, f1, f2⟩ := findC hb
      have hb1 : RelB (sI (pA S 8 g8) 7 0) (sI T 15 0) nS nP nK nQ nT nE nN := hb
      have i0 : Inv (sI (pA S 8 g8) 7 0) (sI T 15 0) nS nP nK nQ nT nE nN 0 := ⟨hb1, ⟨by omega, rfl, rfl⟩, fun t ht => rep_iff (f2 t ht) (fun b _ => (it_clo hT (edg_of hb) _ ht).trans (clo_st (T := T) (T' := sI T 15 0) (fun _ _ _ _ => rfl) nS nE nN nT t b).symm), fun p hp => absurd hp (by omega), fun p hp => absurd hp (by omega)⟩
      have fr := copy_fr (sI T 15 0) c
      have sc := copy_scr hb1 hc
      obtain ⟨r, S1, T1, f, S', T', nK', nR', q1, q2, q3, q4, q5, q6⟩ := pairsCM (inv_scr i0 fr) sc ht
      have eC : m_CX_expand S (nI t) (nI c) = if f = 0 then (m_CPairs_clear S').bind fun q9 => some ((-2), q9) else (m_CX_leaveOutByWants S').bind fun q7 => (m_CPairs_leaveOutByNeeds q7).bind fun q8 => some (gI q8 7, q8) := by
        unfold m_CX_expand
        rw [cT_e, hTc, tt, Option.bind_some, if_neg one0, cK_e, hKc, tc, Option.bind_some, if_neg one0, f1, Option.bind_some, show m_CPairs_clear (pA S 8 g8) = some (sI (pA S 8 g8) 7 0) from rfl, Option.bind_some, if_pos (inb_nI (show c < 60 by omega) (by decide)), nI_clamp (show c < 2 ^ 31 by omega), q3, Option.bind_some]
      have eM : m_MX_expand T (nI t) (nI c) = if f = 0 then some ((-2), sI T' 15 0) else (m_MX_leaveOut T').bind fun q12 => some (gI q12 15, q12) := by
        unfold m_MX_expand
        rw [in_e, hTm, tt, Option.bind_some, if_neg one0, in_e, hKm, tc, Option.bind_some, if_neg one0, show m_MX_copy (sI T 15 0) (nI c) 60 = some (cpd (sI T 15 0) c 60) from copyM (b := 60) _ (show c ≤ 60 by omega) (show 60 ≤ 60 by omega) (by omega), Option.bind_some, q1, Option.bind_some]
        by_cases e : r = -1
        · rw [if_pos e] at q4
          rw [if_pos e, q4, Option.bind_some]
        · rw [if_neg e] at q4
          rw [if_neg e, q4, Option.bind_some]
      rcases q6 with e | e
      · refine ⟨-2, sI S' 7 0, sI T' 15 0, by rw [eC, if_pos e]; rfl, by rw [eM, if_pos e], rel_N (nR := 0) (show RelB (sI S' 7 0) (sI T' 15 0) nS nP nK' nQ nT nE nN from q5.1) ⟨⟨by omega, rfl, rfl⟩, fun p hp => absurd hp (by omega)⟩⟩
      · have ne : ¬ f = 0 := by rw [e]; exact one0
        obtain ⟨g, w1, w2⟩ := wantsC q5
        obtain ⟨hR', hRc, hRm⟩ := q5.2.1
        have ho : ∀ p, p < nR' → gA T' 26 p = 0 ∨ gA T' 26 p = 1 := fun p hp => by
          obtain ⟨u, d, -, -, -, -, -, -, -, a8⟩ := q5.2.2.2.1 p hp
          rw [a8]
          by_cases w : wfT nS T' u d
          · exact Or.inr (b2_t w)
          · exact Or.inl (b2_f w)
        obtain ⟨gc, c1, c2, c3⟩ := needsC (L := fun p q => ¬ gA T' 27 (60 * p + q) = 0) (o := gA T' 26) hR' hRc q5.2.2.2.2 (g := g) (fun p hp => Or.inl (w2 p hp))
        obtain ⟨gm, m1, m2, m3⟩ := leaveM (L := fun p q => ¬ gA T' 27 (60 * p + q) = 0) (o := gA T' 26) hR' hRm (fun p q => Iff.rfl) ho (kl_rf _ _ _)
        refine ⟨nI nR', pA S' 23 gc, pA T' 26 gm, ?_, ?_, rel_N (nR := nR') (show RelB (pA S' 23 gc) (pA T' 26 gm) nS nP nK' nQ nT nE nN from q5.1) ⟨⟨hR', hRc, hRm⟩, fun p hp => ?_⟩⟩
        · rw [eC, if_neg ne, w1, Option.bind_some, c1, Option.bind_some, show gI (pA S' 23 gc) 7 = nI nR' from hRc]
        · rw [eM, if_neg ne, m1, Option.bind_some, show gI (pA T' 26 gm) 15 = nI nR' from hRm]
        · obtain ⟨u, d, -, -, a3, a4, a5, a6, -⟩ := q5.2.2.2.1 p hp
          refine ⟨a3.trans a4.symm, a5.trans a6.symm, ?_⟩
          rw [gA_ps, gA_ps]
          exact kl_eq c2 c3 m2 m3 hp
    · refine ⟨-1, S, T, ?_, ?_, h0⟩
      · simp only [m_CX_expand, cT_e, hTc, tt, cK_e, hKc, thr_no hno, Option.bind_some, if_neg one0, if_true]
      · simp only [m_MX_expand, in_e, hTm, tt, hKm, thr_no hno, Option.bind_some, if_neg one0, if_true]
  · refine ⟨-1, S, T, ?_, ?_, h0⟩
    · simp only [m_CX_expand, cT_e, hTc, thr_no hno, Option.bind_some, if_true]
    · simp only [m_MX_expand, in_e, hTm, thr_no hno, Option.bind_some, if_true]
