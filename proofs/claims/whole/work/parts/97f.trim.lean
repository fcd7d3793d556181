theorem frM_SM {T U V : StM} {nK : Nat} (hK : nK ≤ 60) (h : FrS T U) (g : FrM U V nK) : FrM T V nK := ⟨fun k a b => (g.1 k a b).trans (h.1 k a b), fun k a => (g.2.1 k a).trans (h.2.1 k), fun c hc => (g.2.2.1 c hc).trans (h.2.2.1 c (by omega)), fun x hx => (g.2.2.2 x hx).trans (h.2.2.2 x (by omega))⟩
/-- a CONFIGURATION TRIMMED for a TARGET, and its number, in both -/
theorem trimNum {S : StC} {T : StM} {nS nP nK nQ nT nE nN t : Nat} {x : Int64} (rd : Int32) (h : RelB S T nS nP nK nQ nT nE nN) (hrd : m_MX_readAll T (nI t) = some rd) (sc : Scr T nS nP x) :
    ∃ (y : Int64) (r : Int32) (S' : StC) (T' : StM) (nK' : Nat), m_CX_trimmed S x rd = some y ∧ m_CConfigurations_numberOf S y = some (r, S') ∧ m_MX_trimmed T (nI t) = some (r, T') ∧ RelB S' T' nS nP nK' nQ nT nE nN ∧ nK ≤ nK' ∧ FrC S S' nK ∧ FrM T T' nK ∧ (r = -1 ∨ ∃ c : Nat, c < nK' ∧ r = nI c ∧ gB S' 0 c = y) := by
  have hS : nS ≤ 16 := h.1.1
  have hK : nK ≤ 60 := h.2.2.1.1
  obtain ⟨y, T1, f1, f2, f3, f4⟩ := trim_l rd nS 0 100 T x h sc (by omega) (by omega) (by omega)
  obtain ⟨r, S', T', nK', q1, q2, q3, q4, q5, q6, q7⟩ := numbering (relB_scr h f4) f3.1 f3.2
  refine ⟨y, r, S', T', nK', ?_, q1, ?_, q3, q4, q5, frM_SM hK f4 q6, q7⟩
  · unfold m_CX_trimmed
    rw [show L_CX_trimmed_6 S rd 100 x 0 = _ from f1, Option.bind_some]
  · unfold m_MX_trimmed
    rw [hrd, Option.bind_some, show L_MX_trimmed_8 rd 100 T 0 = _ from f2, Option.bind_some, q2, Option.bind_some]
theorem op21 : Op21 Rel := by
  intro S T a1 a2 h
  have h0 := h
  obtain ⟨nS, nP, nK, nQ, nT, nE, nN, nR, hall⟩ := h
  obtain ⟨hb, hp⟩ := rel_B hall
  obtain ⟨hS, hP, ⟨hK, hKc, hKm⟩, hQ, ⟨hT, hTc, hTm⟩, -⟩ := id hb
  rcases rng a1 (n := nT) (by omega) with ⟨t, ht, rfl⟩ | hno
  · have tt := thr_yes ht (show nT < 2 ^ 31 by omega)
    rcases rng a2 (n := nK) (by omega) with ⟨c, hc, rfl⟩ | hno
    · have tc := thr_yes hc (show nK < 2 ^ 31 by omega)
      have fr := copy_fr T c
      obtain ⟨g', f1, f2⟩ := readsCM (relB_scr hb fr)
      have sc := copy_scr hb hc
      obtain ⟨y, r, S', T', nK', q1, q2, q3, q4, q5, q6, q7, q8⟩ := trimNum (g' t) (relB_8 (relB_scr hb fr) g') (f2 t ht) sc
      refine ⟨r, S', T', ?_, ?_, rel_N q4 (relP_fr (S := pA S 8 g') (relP_scr (S := pA S 8 g') (show RelP (pA S 8 g') T nR from hp) fr) q6 q7)⟩
      · have e8 : gA (pA S 8 g') 8 t = g' t := by rw [gA_ps]
        have e0 : gB (pA S 8 g') 0 c = gB S 0 c := rfl
        simp only [m_CX_trim, cT_e, hTc, tt, cK_e, hKc, tc, Option.bind_some, if_neg one0, f1, inb_nI (show c < 60 by omega) (show (60 : Nat) < 2 ^ 31 by omega), inb_nI (show t < 16 by omega) (show (16 : Nat) < 2 ^ 31 by omega), if_true, nI_clamp (show t < 2 ^ 31 by omega), nI_clamp (show c < 2 ^ 31 by omega), e8, e0, q1, q2]
      · simp only [m_MX_trim, in_e, hTm, tt, hKm, tc, Option.bind_some, if_neg one0]
        rw [show (60 : Int32) = nI 60 from rfl, copyM T (show c ≤ 60 by omega) (show 60 ≤ 60 by omega) (by omega), Option.bind_some, q3, Option.bind_some]
    · refine ⟨-1, S, T, ?_, ?_, h0⟩
      · simp only [m_CX_trim, cT_e, hTc, tt, cK_e, hKc, thr_no hno, Option.bind_some, if_neg one0, if_true]
      · simp only [m_MX_trim, in_e, hTm, tt, hKm, thr_no hno, Option.bind_some, if_neg one0, if_true]
  · refine ⟨-1, S, T, ?_, ?_, h0⟩
    · simp only [m_CX_trim, cT_e, hTc, thr_no hno, Option.bind_some, if_true]
    · simp only [m_MX_trim, in_e, hTm, thr_no hno, Option.bind_some, if_true]
/-- the start -/
theorem rel_0 : Rel S0C S0M := by
  refine ⟨0, 0, 0, 0, 0, 0, 0, 0, ⟨by decide, rfl, rfl⟩, ⟨by decide, rfl, rfl⟩, ⟨by decide, rfl, rfl⟩, ⟨by decide, rfl, rfl⟩, ⟨by decide, rfl, rfl⟩, ⟨by decide, rfl, rfl⟩, ⟨by decide, rfl, rfl⟩, ⟨by decide, rfl, rfl⟩, ?_, ?_, ?_, ?_, ?_, ?_, ?_, ?_, ?_, ?_, ?_, ?_, ?_, ?_⟩
  · exact fun i hi => absurd hi (by omega)
  · exact fun i _ => rfl
  · exact fun i hi => absurd hi (by omega)
  · exact fun q _ => ⟨0, by omega, rfl, rfl, fun _ => rfl, fun j hj => absurd hj (by omega)⟩
  · exact fun q _ => ⟨Or.inl rfl, Or.inl ⟨rfl, rfl, fun s b hs => absurd hs (by omega)⟩⟩
  · exact fun i hi => absurd hi (by omega)
  · exact fun s _ => ⟨0, by omega, rfl, rfl, fun _ => rfl, fun j hj => absurd hj (by omega)⟩
  · exact fun i hi => absurd hi (by omega)
  · exact fun s _ => Or.inl ⟨rfl, fun _ => rfl⟩
  · exact fun s _ => Or.inl ⟨rfl, fun r b hr => absurd hr (by omega)⟩
  · exact fun s _ => Or.inl ⟨rfl, fun b hb => rfl⟩
  · exact fun e _ => ⟨fun h => absurd h (by omega), 0, by omega, rfl, rfl, fun _ => rfl, fun j hj => absurd hj (by omega)⟩
  · exact fun i hi => absurd hi (by omega)
  · exact Or.inl ⟨rfl, rfl⟩
