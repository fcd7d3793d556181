theorem op0 : Op0 Rel := by
  intro S T a1 a2 h
  have h0 := h
  obtain ⟨nS, nP, nK, nQ, nT, nE, nN, nR, ⟨hS, hSc, hSm⟩, hP, ⟨hK, hKc, hKm⟩, hQ, hT, hE, hN, hR, r1, r2, r3, r4, r5, r6, r7, r8, r9, r10, r11, r12, r13, r14⟩ := h
  by_cases d1 : a1 < 1
  · refine ⟨-1, S, T, ?_, ?_, h0⟩
    · simp only [m_CX_setting, if_pos d1]
    · simp only [m_MX_setting, if_pos d1]
      by_cases hf : gI T 0 = 16
      · rw [if_pos hf]
      · rw [if_neg hf]
  by_cases d2 : 8 < a1
  · refine ⟨-1, S, T, ?_, ?_, h0⟩
    · simp only [m_CX_setting, if_neg d1, if_pos d2]
    · simp only [m_MX_setting, if_neg d1, if_pos d2]
      by_cases hf : gI T 0 = 16
      · rw [if_pos hf]
      · rw [if_neg hf]
  have d0 : ¬ a1 < 0 := fun h => d1 (by
    rw [Int32.lt_iff_toInt_lt] at h ⊢
    have : (0 : Int32).toInt = 0 := by decide
    have : (1 : Int32).toInt = 1 := by decide
    omega)
  obtain ⟨v, hv, rfl⟩ := nI_of2 (M := 8) (n := 8) (by decide) d0 (Int32.not_lt.mp d2)
  have hv1 : 1 ≤ v := by
    rcases Nat.eq_zero_or_pos v with e | e
    · subst e; exact absurd (by decide) d1
    · exact e
  rcases rng a2 (n := v) (by omega) with ⟨f, hfv, rfl⟩ | hno
  · have d3 : ¬ nI f < 0 := nI_pos (by omega)
    have d4 : nI f < nI v := nI_lt hfv (by omega)
    by_cases hf : nS = 16
    · refine ⟨-1, S, T, ?_, ?_, h0⟩
      · subst hf
        simp only [m_CX_setting, m_CSettings_add, if_neg d1, if_neg d2, if_neg d3, if_pos d4, hSc]
        rfl
      · subst hf
        simp only [m_MX_setting, hSm]
        rfl
    · have hlt : nS < 16 := by omega
      have b1 : inb (nI nS) 16 = true := inb_nI (by omega) (by decide)
      have h1 : nI nS < (16 : Int32) := nI_lt (b := 16) hlt (by decide)
      have h2 : ¬ nI nS = (16 : Int32) := fun e => hf (nI_inj (b := 16) (by omega) (by decide) e)
      have h3 : ¬ nI nS = -1 := nI_ne_m1 (by omega)
      have en := nI_clamp (show nS < 2 ^ 31 by omega)
      obtain ⟨S1, eS1⟩ : ∃ S1, S1 = sI (tA (tA (tA S 0 (nI nS) (nI v)) 1 (nI nS) (nI f)) 2 (nI nS) (-1)) 0 (nI nS + 1) := ⟨_, rfl⟩
      obtain ⟨T1, eT1⟩ : ∃ T1, T1 = tA (tA (tA T 0 (nI nS) (-1)) 1 (nI nS) (nI v)) 2 (nI nS) (nI f) := ⟨_, rfl⟩
      have eK1 : gI S1 2 = nI nK := by rw [eS1]; exact hKc
      have eT0 : gI T1 0 = nI nS := by rw [eT1]; exact hSm
      have lC := giveAll_l S1 (nI nS) (nI f) nK eK1 hK nK 0 100 (gB S1 0) (by omega) (by omega) (by omega)
      have lM := setM_l T1 (nI f) nS eT0 hlt 61 0 100 (gA T1 5) (by omega) (by omega) (by omega)
      rw [pB_self] at lC
      rw [pA_self] at lM
      refine ⟨nI nS, pB S1 0 (fun c => if 0 ≤ c ∧ c < nK then wv (gB S1 0 c) (nI nS) (nI f) else gB S1 0 c), sI (pA T1 5 (fun x => if x % 16 = nS ∧ 0 ≤ x / 16 ∧ x / 16 ≤ 60 then nI f else gA T1 5 x)) 0 (nI nS + 1), ?_, ?_, nS + 1, nP, nK, nQ, nT, nE, nN, nR, ⟨hlt, ?_, ?_⟩, ?_, ⟨hK, ?_, ?_⟩, ?_, ?_, ?_, ?_, ?_, ?_, ?_, ?_, ?_, ?_, ?_, ?_, ?_, ?_, ?_, ?_, ?_, ?_, ?_⟩
      · simp only [m_CX_setting, m_CSettings_add, if_neg d1, if_neg d2, if_neg d3, if_pos d4, hSc, if_pos h1, b1, if_true, Option.bind_some, if_neg h3, m_CConfigurations_giveAll, ← eS1]
        rw [show (0 : Int32) = nI 0 from rfl, lC]
        rfl
      · simp only [m_MX_setting, hSm, if_neg h2, if_neg d1, if_neg d2, in_e, thr_yes hfv (show v < 2 ^ 31 by omega), Option.bind_some, if_neg one0, b1, if_true, ← eT1]
        rw [show (0 : Int32) = nI 0 from rfl, lM]
        show some (gI T1 0 + 1 - 1, sI _ 0 (gI T1 0 + 1)) = _
        rw [eT0, inc_dec]
      all_goals subst eS1 eT1
      · exact nI_1 nS
      · exact nI_1 nS
      · exact hP
      · exact hKc
      · exact hKm
      · exact hQ
      · exact hT
      · exact hE
      · exact hN
      · exact hR
      · show RSet (nS + 1) (upd (gA S 0) (nI nS).toNatClampNeg (nI v)) (upd (gA S 1) (nI nS).toNatClampNeg (nI f)) (upd (gA S 2) (nI nS).toNatClampNeg (-1)) (upd (gA T 0) (nI nS).toNatClampNeg (-1)) (upd (gA T 1) (nI nS).toNatClampNeg (nI v)) (upd (gA T 2) (nI nS).toNatClampNeg (nI f))
        rw [en]
        intro i hi
        simp only [upd_e]
        by_cases e : i = nS
        · simp only [if_pos e, true_and]; exact Or.inl ⟨v, f, rfl, rfl, hfv, hv⟩
        · simp only [if_neg e]; exact r1 i (by omega)
      · exact r2
      · show RConf (nS + 1) nP nK (fun c => if 0 ≤ c ∧ c < nK then wv (gB S 0 c) (nI nS) (nI f) else gB S 0 c) (upd (gA T 0) (nI nS).toNatClampNeg (-1)) (gA T 4) (fun x => if x % 16 = nS ∧ 0 ≤ x / 16 ∧ x / 16 ≤ 60 then nI f else gA T 5 x)
        rw [en]
        intro c hc
        obtain ⟨⟨q1, q2⟩, q3⟩ := r3 c hc
        have ev : ∀ s, s < 16 → (if (16 * c + s) % 16 = nS ∧ 0 ≤ (16 * c + s) / 16 ∧ (16 * c + s) / 16 ≤ 60 then nI f else gA T 5 (16 * c + s)) = if s = nS then nI f else gA T 5 (16 * c + s) := by
          intro s hs
          by_cases e : s = nS
          · rw [if_pos (by omega), if_pos e]
          · rw [if_neg (by omega), if_neg e]
        refine ⟨⟨q1, fun s hs hm => ?_⟩, ?_⟩
        · show ∃ x : Nat, x < 8 ∧ (if (16 * c + s) % 16 = nS ∧ 0 ≤ (16 * c + s) / 16 ∧ (16 * c + s) / 16 ≤ 60 then nI f else gA T 5 (16 * c + s)) = nI x
          rw [ev s (by omega)]
          rw [upd_e] at hm
          by_cases e : s = nS
          · rw [if_pos e]; exact ⟨f, by omega, rfl⟩
          · rw [if_neg e] at hm ⊢; exact q2 s (by omega) hm
        · show Enc (if 0 ≤ c ∧ c < nK then wv (gB S 0 c) (nI nS) (nI f) else gB S 0 c) (gA T 4 c).toNatClampNeg _
          rw [if_pos ⟨by omega, hc⟩]
          refine enc_f (enc_with q3 hlt (show f < 8 by omega)) (fun s hs => ?_)
          unfold rowV
          rw [upd_e]
          dsimp only
          by_cases e : s = nS
          · rw [if_pos e, if_pos e, if_pos ⟨by omega, rfl⟩, ev s hs, if_pos e, nI_clamp (by omega)]
          · rw [if_neg e, if_neg e, ev s hs, if_neg e]
            by_cases c1 : s < nS ∧ gA T 0 s = -1
            · rw [if_pos c1, if_pos ⟨by omega, c1.2⟩]
            · rw [if_neg c1, if_neg (fun c2 => c1 ⟨by omega, c2.2⟩)]
      · intro q hq
        obtain ⟨k, g1, g2, g3, g4, g5⟩ := r4 q hq
        refine ⟨k, g1, g2, g3, g4, fun i hi => ?_⟩
        obtain ⟨w, x, u1, u2, u3, u4⟩ := g5 i hi
        exact ⟨w, x, u1, u2, u3, u4.imp (fun ⟨y1, y2, y3⟩ => ⟨y1, by omega, y3⟩) id⟩
      · exact r5
      · exact r6
      · exact r7
      · exact r8
      · exact r9
      · exact r10
      · exact r11
      · intro e he
        obtain ⟨g1, k, g2, g3, g4, g5, g6⟩ := r12 e he
        refine ⟨g1, k, g2, g3, g4, g5, fun i hi => ?_⟩
        obtain ⟨u1, u2, ⟨s, u3, u4⟩, u5⟩ := g6 i hi
        exact ⟨u1, u2, ⟨s, by omega, u4⟩, u5⟩
      · exact r13
      · exact r14
  · refine ⟨-1, S, T, ?_, ?_, h0⟩
    · simp only [m_CX_setting, if_neg d1, if_neg d2]
      by_cases d3 : a2 < 0
      · rw [if_pos d3]
      · rw [if_neg d3, if_neg (Int32.not_lt.mpr (hno.resolve_left d3))]
    · simp only [m_MX_setting, if_neg d1, if_neg d2, in_e, thr_no hno, Option.bind_some, if_true]
      by_cases hf : gI T 0 = 16
      · rw [if_pos hf]
      · rw [if_neg hf]
theorem platC_l (S : StC) (p : Nat) (hp : gI S 1 = nI p) (h8 : p < 8) : ∀ (m i n : Nat) (g : Nat → Int32), m = 8 - i → i ≤ 8 → m < n → L_CPlatforms_add_13 n (pA S 3 g) (nI i) = some (pA S 3 (fun x => if 8 * p + i ≤ x ∧ x < 8 * p + 8 then -1 else g x)) := by
  intro m
  induction m with
  | zero =>
    intro i n g hm hi hn
    obtain ⟨n, rfl⟩ : ∃ k, n = k + 1 := ⟨n - 1, by omega⟩
    have h2 : (8 : Int32) ≤ nI i := nI_le (a := 8) (by omega) (by omega)
    rw [L_CPlatforms_add_13, if_pos h2]
    congr 2
    funext c
    rw [if_neg (by omega)]
  | succ m ih =>
    intro i n g hm hi hn
    obtain ⟨n, rfl⟩ : ∃ k, n = k + 1 := ⟨n - 1, by omega⟩
    have h2 : ¬ (8 : Int32) ≤ nI i := nI_ge (b := 8) (by omega) (by decide)
    have h3 : gI (pA S 3 g) 1 = nI p := hp
    rw [L_CPlatforms_add_13, if_neg h2, h3, m_CPlatforms_put, ixc8, if_pos (inb_nI (show 8 * p + i < 64 by omega) (by decide)), tA_pA, nI_clamp (by omega), Option.bind_some, nI_1, ih (i + 1) n _ (by omega) (by omega) (by omega)]
    congr 2
    funext c
    rw [upd_e]
    by_cases c1 : c = 8 * p + i
    · rw [if_neg (by omega), if_pos c1, if_pos (by omega)]
    · rw [if_neg c1]
      by_cases c2 : 8 * p + (i + 1) ≤ c ∧ c < 8 * p + 8
      · rw [if_pos c2, if_pos (by omega)]
      · rw [if_neg c2, if_neg (by omega)]
theorem platM_l (T : StM) (p : Nat) (hp : gI T 1 = nI p) (h8 : p < 8) : ∀ (m i n : Nat) (g : Nat → Int32), m = 8 - i → i ≤ 8 → m < n → L_MX_platform_13 n (pA T 3 g) (nI i) = some (pA T 3 (fun x => if 8 * p + i ≤ x ∧ x < 8 * p + 8 then -1 else g x)) := by
  intro m
  induction m with
  | zero =>
    intro i n g hm hi hn
    obtain ⟨n, rfl⟩ : ∃ k, n = k + 1 := ⟨n - 1, by omega⟩
    have h2 : (8 : Int32) ≤ nI i := nI_le (a := 8) (by omega) (by omega)
    rw [L_MX_platform_13, if_pos h2]
    congr 2
    funext c
    rw [if_neg (by omega)]
  | succ m ih =>
    intro i n g hm hi hn
    obtain ⟨n, rfl⟩ : ∃ k, n = k + 1 := ⟨n - 1, by omega⟩
    have h2 : ¬ (8 : Int32) ≤ nI i := nI_ge (b := 8) (by omega) (by decide)
    have h3 : gI (pA T 3 g) 1 = nI p := hp
    rw [L_MX_platform_13, if_neg h2, h3, ixm8, if_pos (inb_nI (show 8 * p + i < 64 by omega) (by decide)), tA_pA, nI_clamp (by omega), nI_1, ih (i + 1) n _ (by omega) (by omega) (by omega)]
    congr 2
    funext c
    rw [upd_e]
    by_cases c1 : c = 8 * p + i
    · rw [if_neg (by omega), if_pos c1, if_pos (by omega)]
    · rw [if_neg c1]
      by_cases c2 : 8 * p + (i + 1) ≤ c ∧ c < 8 * p + 8
      · rw [if_pos c2, if_pos (by omega)]
      · rw [if_neg c2, if_neg (by omega)]
theorem op3 : Op3 Rel := by
  intro S T h
  have h0 := h
  obtain ⟨nS, nP, nK, nQ, nT, nE, nN, nR, hS, ⟨hP, hPc, hPm⟩, hK, hQ, hT, hE, hN, hR, r1, r2, r3, r4, r5, r6, r7, r8, r9, r10, r11, r12, r13, r14⟩ := h
  by_cases hf : nP = 8
  · refine ⟨-1, S, T, ?_, ?_, h0⟩
    · subst hf
      simp only [m_CX_platform, m_CPlatforms_add, hPc]
      rfl
    · subst hf
      simp only [m_MX_platform, hPm]
      rfl
  · have hlt : nP < 8 := by omega
    have h1 : nI nP < (8 : Int32) := nI_lt (b := 8) hlt (by decide)
    have h2 : ¬ nI nP = (8 : Int32) := fun e => hf (nI_inj (b := 8) (by omega) (by decide) e)
    have lC := platC_l S nP hPc hlt 8 0 100 (gA S 3) (by omega) (by omega) (by omega)
    have lM := platM_l T nP hPm hlt 8 0 100 (gA T 3) (by omega) (by omega) (by omega)
    rw [pA_self] at lC lM
    refine ⟨nI nP, sI (pA S 3 (fun x => if 8 * nP + 0 ≤ x ∧ x < 8 * nP + 8 then -1 else gA S 3 x)) 1 (nI nP + 1), sI (pA T 3 (fun x => if 8 * nP + 0 ≤ x ∧ x < 8 * nP + 8 then -1 else gA T 3 x)) 1 (nI nP + 1), ?_, ?_, nS, nP + 1, nK, nQ, nT, nE, nN, nR, hS, ⟨hlt, nI_1 nP, nI_1 nP⟩, hK, hQ, hT, hE, hN, hR, r1, ?_, ?_, r4, r5, r6, r7, r8, r9, r10, r11, r12, r13, r14⟩
    · simp only [m_CX_platform, m_CPlatforms_add, hPc, if_pos h1]
      rw [show (0 : Int32) = nI 0 from rfl, lC]
      show some (gI S 1, sI _ 1 (gI S 1 + 1)) = _
      rw [hPc]
    · simp only [m_MX_platform, hPm, if_neg h2]
      rw [show (0 : Int32) = nI 0 from rfl, lM]
      show some (gI T 1 + 1 - 1, sI _ 1 (gI T 1 + 1)) = _
      rw [hPm, inc_dec]
    · intro i hi
      show (if 8 * nP + 0 ≤ i ∧ i < 8 * nP + 8 then -1 else gA S 3 i) = (if 8 * nP + 0 ≤ i ∧ i < 8 * nP + 8 then -1 else gA T 3 i)
      rw [r2 i hi]
    · intro c hc
      obtain ⟨⟨⟨p, q0, q1⟩, q2⟩, q3⟩ := r3 c hc
      exact ⟨⟨⟨p, by omega, q1⟩, q2⟩, q3⟩
