/-! all PAIRS -/
theorem x70_0 (x4 : Int32) (n : Nat) (T : StM) (x5 : Int32) : L_MX_expand_70 x4 (n + 1) T 0 x5 = some (T, 0) := by
  rw [L_MX_expand_70]
  by_cases c : gI T 6 ≤ x5
  · rw [if_pos c]
  · rw [if_neg c, if_pos rfl]
theorem x54_0 (n : Nat) (T : StM) (x4 : Int32) : L_MX_expand_54 (n + 1) T 0 x4 = some (T, 0) := by
  rw [L_MX_expand_54]
  by_cases c : gI T 15 ≤ x4
  · rw [if_pos c]
  · rw [if_neg c, if_pos rfl]
def FGoP (nS nP nQ nT nE nN nR0 : Nat) (oc : Option (StC ⊕ (Int32 × StC))) (om : Option (StM × Int32)) : Prop := ∃ S' T' nK' nR', Inv S' T' nS nP nK' nQ nT nE nN nR' ∧ nR0 ≤ nR' ∧ ((oc = some (.inl S') ∧ om = some (T', 1)) ∨ (oc = some (.inr (0, S')) ∧ om = some (T', 0)))
theorem pairs_in {nS nP nQ nT nE nN p nR0 : Nat} (hp : p < nR0) : ∀ (m i n n' : Nat) (S : StC) (T : StM) (nK nR : Nat), Inv S T nS nP nK nQ nT nE nN nR → nR0 ≤ nR → m = nN - i → i ≤ nN → m < n → m < n' → FGoP nS nP nQ nT nE nN nR0 (L_CX_findPairs_37 (nI p) n S (nI i)) (L_MX_expand_70 (nI p) n' T 1 (nI i)) := by
  intro m
  induction m with
  | zero =>
    intro i n n' S T nK nR h hr hm hi hn hn'
    obtain ⟨n, rfl⟩ : ∃ k, n = k + 1 := ⟨n - 1, by omega⟩
    obtain ⟨n', rfl⟩ : ∃ k, n' = k + 1 := ⟨n' - 1, by omega⟩
    obtain ⟨hN, hNc, hNm⟩ := h.1.2.2.2.2.2.2.1
    have l8 : nI nN ≤ nI i := nI_le (by omega) (by omega)
    rw [L_CX_findPairs_37, hNc, if_pos l8, L_MX_expand_70, hNm, if_pos l8]
    exact ⟨S, T, nK, nR, h, hr, Or.inl ⟨rfl, rfl⟩⟩
  | succ m ih =>
    intro i n n' S T nK nR h hr hm hi hn hn'
    obtain ⟨n, rfl⟩ : ∃ k, n = k + 1 := ⟨n - 1, by omega⟩
    obtain ⟨n', rfl⟩ : ∃ k, n' = k + 1 := ⟨n' - 1, by omega⟩
    obtain ⟨hN, hNc, hNm⟩ := h.1.2.2.2.2.2.2.1
    have hR : nR ≤ 60 := h.2.1.1
    have l8 : ¬ nI nN ≤ nI i := nI_ge (by omega) (by omega)
    obtain ⟨⟨u, hu, eu, eum⟩, -⟩ := needOf h.1 (show i < nN by omega)
    obtain ⟨t, c, a1, a2, a3, a4, -⟩ := h.2.2.2.1 p (by omega)
    rw [L_CX_findPairs_37, hNc, if_neg l8, if_pos (inb_nI (show i < 40 by omega) (by decide)), if_pos (inb_nI (show p < 60 by omega) (by decide)), nI_clamp (show i < 2 ^ 31 by omega), nI_clamp (show p < 2 ^ 31 by omega), eu, a3, L_MX_expand_70, hNm, if_neg l8, if_neg one0, if_pos (inb_nI (show i < 40 by omega) (by decide)), if_pos (inb_nI (show p < 61 by omega) (by decide)), nI_clamp (show i < 2 ^ 31 by omega), nI_clamp (show p < 2 ^ 31 by omega), eum, a4, nI_1]
    by_cases q : nI u = nI t
    · rw [if_pos q, if_pos q]
      obtain ⟨f, S', T', nK', nR', g1, g2, g3, g4, g5⟩ := followCM h (show p < nR by omega) (show i < nN by omega)
      rw [g1, g2, Option.bind_some, Option.bind_some]
      rcases g5 with o | o
      · obtain ⟨n', rfl⟩ : ∃ k, n' = k + 1 := ⟨n' - 1, by omega⟩
        rw [o, if_pos rfl, if_pos rfl, x70_0]
        exact ⟨S', T', nK', nR', g3, by omega, Or.inr ⟨rfl, rfl⟩⟩
      · rw [o, if_neg one0, if_neg one0]
        exact ih (i + 1) n n' S' T' nK' nR' g3 (by omega) (by omega) (by omega) (by omega) (by omega)
    · rw [if_neg q, if_neg q]
      exact ih (i + 1) n n' S T nK nR h hr (by omega) (by omega) (by omega) (by omega)
theorem pairs_out {nS nP nQ nT nE nN : Nat} : ∀ (m i n n' : Nat) (S : StC) (T : StM) (nK nR : Nat), Inv S T nS nP nK nQ nT nE nN nR → i ≤ nR → m = 60 - i → m < n → m + 1 < n' → FGoP nS nP nQ nT nE nN 0 (L_CX_findPairs_15 n S (nI i)) (L_MX_expand_54 n' T 1 (nI i)) := by
  intro m
  induction m with
  | zero =>
    intro i n n' S T nK nR h hr hm hn hn'
    obtain ⟨n, rfl⟩ : ∃ k, n = k + 1 := ⟨n - 1, by omega⟩
    obtain ⟨n', rfl⟩ : ∃ k, n' = k + 1 := ⟨n' - 1, by omega⟩
    obtain ⟨hR, hRc, hRm⟩ := h.2.1
    have l8 : (60 : Int32) ≤ nI i := nI_le (a := 60) (by omega) (by omega)
    have l9 : nI nR ≤ nI i := nI_le (by omega) (by omega)
    rw [L_CX_findPairs_15, if_pos l8, L_MX_expand_54, hRm, if_pos l9]
    exact ⟨S, T, nK, nR, h, Nat.zero_le _, Or.inl ⟨rfl, rfl⟩⟩
  | succ m ih =>
    intro i n n' S T nK nR h hr hm hn hn'
    obtain ⟨n, rfl⟩ : ∃ k, n = k + 1 := ⟨n - 1, by omega⟩
    obtain ⟨n', rfl⟩ : ∃ k, n' = k + 1 := ⟨n' - 1, by omega⟩
    obtain ⟨hR, hRc, hRm⟩ := h.2.1
    have hN : nN ≤ 40 := h.1.2.2.2.2.2.2.1.1
    have l8 : ¬ (60 : Int32) ≤ nI i := nI_ge (b := 60) (by omega) (by decide)
    by_cases q : nR = i
    · have l9 : nI nR ≤ nI i := nI_le (by omega) (by omega)
      rw [L_CX_findPairs_15, if_neg l8, hRc, if_pos l9, L_MX_expand_54, hRm, if_pos l9]
      exact ⟨S, T, nK, nR, h, Nat.zero_le _, Or.inl ⟨rfl, rfl⟩⟩
    · have l9 : ¬ nI nR ≤ nI i := nI_ge (by omega) (by omega)
      obtain ⟨S', T', nK', nR', g1, g2, g3⟩ := pairs_in (show i < nR by omega) nN 0 100 100 S T nK nR h (Nat.le_refl _) (by omega) (by omega) (by omega) (by omega)
      rcases g3 with ⟨o1, o2⟩ | ⟨o1, o2⟩
      · have eC : L_CX_findPairs_15 (n + 1) S (nI i) = L_CX_findPairs_15 n S' (nI (i + 1)) := by
          rw [L_CX_findPairs_15, if_neg l8, hRc, if_neg l9, show L_CX_findPairs_37 (nI i) 100 S 0 = _ from o1, Option.bind_some, nI_1]
          rfl
        have eM : L_MX_expand_54 (n' + 1) T 1 (nI i) = L_MX_expand_54 n' T' 1 (nI (i + 1)) := by
          rw [L_MX_expand_54, hRm, if_neg l9, if_neg one0, show L_MX_expand_70 (nI i) 100 T 1 0 = _ from o2, Option.bind_some, nI_1]
        rw [eC, eM]
        exact ih (i + 1) n n' S' T' nK' nR' g1 (by omega) (by omega) (by omega) (by omega)
      · have eC : L_CX_findPairs_15 (n + 1) S (nI i) = some (.inr (0, S')) := by
          rw [L_CX_findPairs_15, if_neg l8, hRc, if_neg l9, show L_CX_findPairs_37 (nI i) 100 S 0 = _ from o1, Option.bind_some]
          rfl
        obtain ⟨n', rfl⟩ : ∃ k, n' = k + 1 := ⟨n' - 1, by omega⟩
        have eM : L_MX_expand_54 (n' + 1 + 1) T 1 (nI i) = some (T', 0) := by
          rw [L_MX_expand_54, hRm, if_neg l9, if_neg one0, show L_MX_expand_70 (nI i) 100 T 1 0 = _ from o2, Option.bind_some]
          exact x54_0 n' T' _
        rw [eC, eM]
        exact ⟨S', T', nK', nR', g1, Nat.zero_le _, Or.inr ⟨rfl, rfl⟩⟩
/-- finding them, in both: all, or none -/
theorem pairsCM {S : StC} {T : StM} {nS nP nK nQ nT nE nN nR t : Nat} {x : Int64} (h : Inv S T nS nP nK nQ nT nE nN nR) (sc : Scr T nS nP x) (ht : t < nT) : ∃ r S1 T1 f S' T' nK' nR', m_MX_pairOf T (nI t) = some (r, T1) ∧ m_CX_pairOf S (nI t) x = some (r, S1) ∧ m_CX_findPairs S (nI t) x = some (f, S') ∧ L_MX_expand_54 100 T1 (if r = -1 then 0 else 1) 0 = some (T', f) ∧ Inv S' T' nS nP nK' nQ nT nE nN nR' ∧ (f = 0 ∨ f = 1) := by
  obtain ⟨r, S1, T1, nK1, nR1, f1, f2, f3, -⟩ := pairOfCM h sc ht
  by_cases e : r = -1
  · refine ⟨r, S1, T1, 0, S1, T1, nK1, nR1, f2, f1, ?_, ?_, f3, Or.inl rfl⟩
    · unfold m_CX_findPairs
      rw [f1, Option.bind_some, if_pos e]
    · rw [if_pos e, x54_0]
  · obtain ⟨S', T', nK', nR', g1, g2, g3⟩ := pairs_out 60 0 100 100 S1 T1 nK1 nR1 f3 (by omega) (by omega) (by omega) (by omega)
    have eC : m_CX_findPairs S (nI t) x = (L_CX_findPairs_15 100 S1 (nI 0)).bind fun o7 => exK o7 fun y8 => some (1, y8) := by
      unfold m_CX_findPairs
      rw [f1, Option.bind_some, if_neg e]
      rfl
    rcases g3 with ⟨o1, o2⟩ | ⟨o1, o2⟩
    · exact ⟨r, S1, T1, 1, S', T', nK', nR', f2, f1, by rw [eC, o1]; rfl, by rw [if_neg e]; exact o2, g1, Or.inr rfl⟩
    · exact ⟨r, S1, T1, 0, S', T', nK', nR', f2, f1, by rw [eC, o1]; rfl, by rw [if_neg e]; exact o2, g1, Or.inl rfl⟩
