theorem anyC_l (S : StC) (T : StM) (nS nP nK p : Nat) (hP : nP ≤ 8) (hp : p < nP) (hK : nK ≤ 60) (hKc : gI S 2 = nI nK) (r3 : RConf nS nP nK (gB S 0) (gA T 0) (gA T 4) (gA T 5)) : ∀ (m i n : Nat), m = nK - i → i ≤ nK → m < n → ((∀ c, i ≤ c → c < nK → ¬ gA T 4 c = nI p) → L_CConfigurations_anyOn_2 S (nI p) n (nI i) = some (.inl ())) ∧ ((∃ c, i ≤ c ∧ c < nK ∧ gA T 4 c = nI p) → L_CConfigurations_anyOn_2 S (nI p) n (nI i) = some (.inr 1)) := by
  intro m
  induction m with
  | zero =>
    intro i n hm hi hn
    obtain ⟨n, rfl⟩ : ∃ k, n = k + 1 := ⟨n - 1, by omega⟩
    refine ⟨fun _ => ?_, fun ⟨c, h1, h2, _⟩ => absurd h2 (by omega)⟩
    rw [L_CConfigurations_anyOn_2, hKc, if_pos (nI_le (by omega) (by omega))]
  | succ m ih =>
    intro i n hm hi hn
    obtain ⟨n, rfl⟩ : ∃ k, n = k + 1 := ⟨n - 1, by omega⟩
    obtain ⟨⟨⟨q, q0, q1⟩, -⟩, q3⟩ := r3 i (by omega)
    have e : pIn (gB S 0 i) = gA T 4 i := by
      rw [q1, nI_clamp (show q < 2 ^ 31 by omega)] at q3
      rw [enc_plat q3 (by omega), q1]
    have hh : L_CConfigurations_anyOn_2 S (nI p) (n + 1) (nI i) = if gA T 4 i = nI p then some (.inr 1) else L_CConfigurations_anyOn_2 S (nI p) n (nI (i + 1)) := by
      rw [L_CConfigurations_anyOn_2, hKc, if_neg (nI_ge (by omega) (by omega)), if_pos (inb_nI (show i < 60 by omega) (by decide)), nI_clamp (by omega), nI_1]
      show (if pIn (gB S 0 i) = nI p then _ else _) = _
      rw [e]
    rw [hh]
    obtain ⟨g1, g2⟩ := ih (i + 1) n (by omega) (by omega) (by omega)
    refine ⟨fun h => ?_, fun ⟨c, c1, c2, c3⟩ => ?_⟩
    · rw [if_neg (h i (Nat.le_refl _) (by omega))]
      exact g1 (fun c h1 h2 => h c (by omega) h2)
    · by_cases ci : gA T 4 i = nI p
      · rw [if_pos ci]
      · rw [if_neg ci]
        refine g2 ⟨c, ?_, c2, c3⟩
        rcases Nat.lt_or_ge i c with h | h
        · exact h
        · exact absurd (by rw [show i = c by omega]; exact c3) ci
theorem anyM_l (T : StM) (nK p : Nat) (x2 x3 : Int32) (hK : nK ≤ 60) (hKm : gI T 2 = nI nK) : ∀ (m i n : Nat), m = nK - i → i ≤ nK → m < n → ((∀ c, i ≤ c → c < nK → ¬ gA T 4 c = nI p) → L_MX_has_41 T (nI p) x2 x3 n 1 (nI i) = some 1) ∧ ((∃ c, i ≤ c ∧ c < nK ∧ gA T 4 c = nI p) → L_MX_has_41 T (nI p) x2 x3 n 1 (nI i) = some 0) := by
  intro m
  induction m with
  | zero =>
    intro i n hm hi hn
    obtain ⟨n, rfl⟩ : ∃ k, n = k + 1 := ⟨n - 1, by omega⟩
    refine ⟨fun _ => ?_, fun ⟨c, h1, h2, _⟩ => absurd h2 (by omega)⟩
    rw [L_MX_has_41, hKm, if_pos (nI_le (by omega) (by omega))]
  | succ m ih =>
    intro i n hm hi hn
    obtain ⟨n, rfl⟩ : ∃ k, n = k + 1 := ⟨n - 1, by omega⟩
    obtain ⟨g1, g2⟩ := ih (i + 1) n (by omega) (by omega) (by omega)
    have z : ∀ y, L_MX_has_41 T (nI p) x2 x3 n 0 y = some 0 := fun y => by
      obtain ⟨n, rfl⟩ : ∃ k, n = k + 1 := ⟨n - 1, by omega⟩
      rw [L_MX_has_41]
      by_cases c : gI T 2 ≤ y
      · rw [if_pos c]
      · rw [if_neg c, if_pos rfl]
    have hh : L_MX_has_41 T (nI p) x2 x3 (n + 1) 1 (nI i) = if gA T 4 i = nI p then some 0 else L_MX_has_41 T (nI p) x2 x3 n 1 (nI (i + 1)) := by
      rw [L_MX_has_41, hKm, if_neg (nI_ge (by omega) (by omega)), if_neg one0, if_pos (inb_nI (show i < 61 by omega) (by decide)), nI_clamp (by omega), nI_1, z]
    rw [hh]
    refine ⟨fun h => ?_, fun ⟨c, c1, c2, c3⟩ => ?_⟩
    · rw [if_neg (h i (Nat.le_refl _) (by omega))]
      exact g1 (fun c h1 h2 => h c (by omega) h2)
    · by_cases ci : gA T 4 i = nI p
      · rw [if_pos ci]
      · rw [if_neg ci]
        refine g2 ⟨c, ?_, c2, c3⟩
        rcases Nat.lt_or_ge i c with h | h
        · exact h
        · exact absurd (by rw [show i = c by omega]; exact c3) ci
theorem has0 (T : StM) (x1 x2 x3 : Int32) : L_MX_has_41 T x1 x2 x3 100 0 0 = some 0 := by
  rw [L_MX_has_41]
  by_cases c : gI T 2 ≤ 0
  · rw [if_pos c]
  · rw [if_neg c, if_pos rfl]
theorem isB0 : isB 0 = true := rfl
theorem isB1 : isB 1 = true := rfl
theorem op4 : Op4 Rel := by
  intro S T a1 a2 a3 h
  have h0 := h
  obtain ⟨nS, nP, nK, nQ, nT, nE, nN, nR, hS, ⟨hP, hPc, hPm⟩, ⟨hK, hKc, hKm⟩, hQ, hT, hE, hN, hR, r1, r2, r3, r4, r5, r6, r7, r8, r9, r10, r11, r12, r13, r14⟩ := h
  rcases rng a1 (n := nP) (by omega) with ⟨p, hp, rfl⟩ | hno
  · rcases rng a2 (n := 8) (by omega) with ⟨x, hx, rfl⟩ | hno
    · have tp := thr_yes hp (show nP < 2 ^ 31 by omega)
      have tx : thr (nI x) 8 = some 1 := thr_yes hx (show (8 : Nat) < 2 ^ 31 by omega)
      have txc : thr (nI x) (nI 8) = some 1 := tx
      -- is the value one?
      by_cases hv : a3 = -1 ∨ ∃ j : Nat, j < 8 ∧ a3 = nI j
      · have m1 : ¬ a3 < -1 := by
          rcases hv with e | ⟨j, hj, e⟩
          · rw [e]; decide
          · rw [e, Int32.lt_iff_toInt_lt, nI_toInt (by omega)]
            have : (-1 : Int32).toInt = -1 := by decide
            omega
        have m2 : ¬ (8 : Int32) ≤ a3 := by
          rcases hv with e | ⟨j, hj, e⟩
          · rw [e]; decide
          · rw [e]; exact nI_ge (b := 8) hj (by decide)
        obtain ⟨c1, c2⟩ := anyC_l S T nS nP nK p hP hp hK hKc r3 nK 0 100 (by omega) (by omega) (by omega)
        obtain ⟨d1, d2⟩ := anyM_l T nK p (nI x) a3 hK hKm nK 0 100 (by omega) (by omega) (by omega)
        have b1 : inb (nI (8 * p + x)) 64 = true := inb_nI (by omega) (by decide)
        have ei := nI_clamp (show 8 * p + x < 2 ^ 31 by omega)
        by_cases ha : ∃ c, 0 ≤ c ∧ c < nK ∧ gA T 4 c = nI p
        · refine ⟨0, S, T, ?_, ?_, h0⟩
          · have ea : m_CConfigurations_anyOn S (nI p) = some 1 := by
              unfold m_CConfigurations_anyOn
              rw [show (0 : Int32) = nI 0 from rfl, c2 ha]; rfl
            simp only [m_CX_has, cP_e, hPc, tp, cAx_e, txc, Option.bind_some, if_neg one0, ea, cVa_e]
            rcases hv with e | ⟨j, hj, e⟩
            · rw [if_pos e]
            · rw [if_neg (by rw [e]; exact nI_ne_m1 (by omega)), e, thr_yes hj (by omega), Option.bind_some, if_neg one0]
          · simp only [m_MX_has, in_e, hPm, tp, tx, Option.bind_some, if_neg one0, if_neg m1, if_neg m2]
            rw [show (0 : Int32) = nI 0 from rfl, d2 ha]
            rfl
        · have hb : ∀ c, 0 ≤ c → c < nK → ¬ gA T 4 c = nI p := fun c h1 h2 h3 => ha ⟨c, h1, h2, h3⟩
          refine ⟨1, tA S 3 (nI (8 * p + x)) a3, tA T 3 (nI (8 * p + x)) a3, ?_, ?_, nS, nP, nK, nQ, nT, nE, nN, nR, hS, ⟨hP, hPc, hPm⟩, ⟨hK, hKc, hKm⟩, hQ, hT, hE, hN, hR, r1, ?_, r3, r4, r5, r6, r7, r8, r9, r10, r11, r12, r13, r14⟩
          · have ea : m_CConfigurations_anyOn S (nI p) = some 0 := by
              unfold m_CConfigurations_anyOn
              rw [show L_CConfigurations_anyOn_2 S (nI p) 100 0 = _ from c1 hb]; rfl
            simp only [m_CX_has, cP_e, hPc, tp, cAx_e, txc, Option.bind_some, if_neg one0, ea, cVa_e, if_true, m_CPlatforms_put, ixc8, b1]
            rcases hv with e | ⟨j, hj, e⟩
            · rw [if_pos e]
            · rw [if_neg (by rw [e]; exact nI_ne_m1 (by omega)), e, thr_yes hj (by omega), Option.bind_some, if_neg one0]
          · simp only [m_MX_has, in_e, hPm, tp, tx, Option.bind_some, if_neg one0, if_neg m1, if_neg m2, ixm8, b1, if_true]
            rw [show L_MX_has_41 T (nI p) (nI x) a3 100 1 0 = _ from d1 hb, Option.bind_some, if_neg one0, if_pos isB1]
          · show RPlat (upd (gA S 3) (nI (8 * p + x)).toNatClampNeg a3) (upd (gA T 3) (nI (8 * p + x)).toNatClampNeg a3)
            rw [ei]
            intro i hi
            rw [upd_e, upd_e, r2 i hi]
      · refine ⟨0, S, T, ?_, ?_, h0⟩
        · have e1 : ¬ a3 = -1 := fun e => hv (Or.inl e)
          have e2 : thr a3 (nI 8) = some 0 := by
            rcases rng a3 (n := 8) (by omega) with h | h
            · exact absurd (Or.inr h) hv
            · exact thr_no h
          simp only [m_CX_has, cP_e, hPc, tp, cAx_e, txc, Option.bind_some, if_neg one0, if_neg e1, cVa_e, e2, if_true]
        · simp only [m_MX_has, in_e, hPm, tp, tx, Option.bind_some, if_neg one0, has0, if_true, isB0]
          by_cases m1 : a3 < -1
          · rw [if_pos m1]
          · rw [if_neg m1]
            by_cases m2 : (8 : Int32) ≤ a3
            · rw [if_pos m2]
            · exfalso
              apply hv
              rcases rng a3 (n := 8) (by omega) with h | h | h
              · exact Or.inr h
              · left
                apply Int32.toInt_inj.mp
                rw [Int32.lt_iff_toInt_lt] at h m1
                have k0 : (0 : Int32).toInt = 0 := by decide
                have k1 : (-1 : Int32).toInt = -1 := by decide
                omega
              · exact absurd h m2
    · refine ⟨0, S, T, ?_, ?_, h0⟩
      · simp only [m_CX_has, cP_e, hPc, thr_yes hp (show nP < 2 ^ 31 by omega), cAx_e, thr_no hno, Option.bind_some, if_neg one0, if_true]
      · have tx : thr a2 8 = some 0 := thr_no hno
        simp only [m_MX_has, in_e, hPm, thr_yes hp (show nP < 2 ^ 31 by omega), tx, Option.bind_some, if_neg one0, if_true, has0, isB0]
  · refine ⟨0, S, T, ?_, ?_, h0⟩
    · simp only [m_CX_has, cP_e, hPc, thr_no hno, Option.bind_some, if_true]
    · simp only [m_MX_has, in_e, hPm, thr_no hno, Option.bind_some, if_true, has0, isB0]
