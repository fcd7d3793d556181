theorem relP_fr {S S' : StC} {T T' : StM} {nR nK : Nat} (h : RelP S T nR) (f : FrC S S' nK) (g : FrM T T' nK) : RelP S' T' nR := by
  obtain ⟨⟨h1, h2, h3⟩, h4⟩ := h
  refine ⟨⟨h1, (f.2.1 7 (by decide)).trans h2, (g.2.1 15 (by decide)).trans h3⟩, ?_⟩
  rw [f.1 21, f.1 22, f.1 23, g.1 24 (by decide) (by decide), g.1 25 (by decide) (by decide), g.1 26 (by decide) (by decide)]
  exact h4
theorem relP_scr {S : StC} {T T' : StM} {nR : Nat} (h : RelP S T nR) (g : FrS T T') : RelP S T' nR := relP_fr (nK := 0) h ⟨fun _ => rfl, fun _ _ => rfl, fun _ _ => rfl, fun _ _ => rfl⟩ (frS_M (by decide) g)
theorem op14 : Op14 Rel := by
  intro S T a1 a2 h
  have h0 := h
  obtain ⟨nS, nP, nK, nQ, nT, nE, nN, nR, ⟨hS, hSc, hSm⟩, ⟨hP, hPc, hPm⟩, ⟨hK, hKc, hKm⟩, hQ, hT, hE, hN, hR, r1, r2, r3, r4, r5, r6, r7, r8, r9, r10, r11, r12, r13, r14⟩ := h
  have eC := baseC (T := T) hSc hS (fun i hi => (r1 i hi).2.2.1) a2
  have eM := baseM hSm hS a2
  rcases rng a1 (n := nK) (by omega) with ⟨c, hc, rfl⟩ | hno
  · have tc := thr_yes hc (show nK < 2 ^ 31 by omega)
    rcases bas_is (n := nS) (ma := gA T 0) hS a2 with e | ⟨j, hj, hm, e⟩
    · refine ⟨-1, ?_, ?_, h0⟩
      · simp only [m_CX_value, eC, e, cK_e, hKc, tc, Option.bind_some, if_neg one0, if_true]
      · simp only [m_MX_value, eM, e, in_e, hKm, tc, Option.bind_some, if_neg one0, if_true]
    · have d1 : ¬ nI j = -1 := nI_ne_m1 (by omega)
      obtain ⟨⟨q1, q2⟩, q3⟩ := r3 c hc
      obtain ⟨v, hv, ev⟩ := q2 j hj hm
      have e1 : vIn (gB S 0 c) (nI j) = nI v := by
        rw [enc_val q3 (show j < 16 by omega) (rowV_lt ⟨q1, q2⟩ j), rowV_at hj hm, ev, nI_clamp (by omega)]
      refine ⟨nI v, ?_, ?_, h0⟩
      · simp only [m_CX_value, eC, e, cK_e, hKc, tc, Option.bind_some, if_neg one0, if_neg d1, inb_nI (show c < 60 by omega) (show (60 : Nat) < 2 ^ 31 by omega), if_true, nI_clamp (show c < 2 ^ 31 by omega)]
        show some (vIn (gB S 0 c) (nI j)) = _
        rw [e1]
      · simp only [m_MX_value, eM, e, in_e, hKm, tc, Option.bind_some, if_neg one0, if_neg d1, ixm16, inb_nI (show 16 * c + j < 976 by omega) (show (976 : Nat) < 2 ^ 31 by omega), if_true, nI_clamp (show 16 * c + j < 2 ^ 31 by omega), ev]
  · refine ⟨-1, ?_, ?_, h0⟩
    · simp only [m_CX_value, eC, cK_e, hKc, thr_no hno, Option.bind_some, if_true]
    · simp only [m_MX_value, eM, in_e, hKm, thr_no hno, Option.bind_some, if_true]
theorem op13 : Op13 Rel := by
  intro S T a1 a2 a3 h
  have h0 := h
  obtain ⟨nS, nP, nK, nQ, nT, nE, nN, nR, hall⟩ := h
  obtain ⟨hb, hp⟩ := rel_B hall
  obtain ⟨⟨hS, hSc, hSm⟩, ⟨hP, hPc, hPm⟩, ⟨hK, hKc, hKm⟩, hQ, hT, hE, hN, r1, r2, r3, -⟩ := id hb
  have eC := baseC (T := T) hSc hS (fun i hi => (r1 i hi).2.2.1) a2
  have eM := baseM hSm hS a2
  rcases rng a1 (n := nK) (by omega) with ⟨c, hc, rfl⟩ | hno
  · have tc := thr_yes hc (show nK < 2 ^ 31 by omega)
    rcases bas_is (n := nS) (ma := gA T 0) hS a2 with e | ⟨j, hj, hm, e⟩
    · refine ⟨-1, S, T, ?_, ?_, h0⟩
      · simp only [m_CX_set, eC, e, cK_e, hKc, tc, Option.bind_some, if_neg one0, if_true]
      · simp only [m_MX_set, eM, e, in_e, hKm, tc, Option.bind_some, if_neg one0, if_true]
    · have d1 : ¬ nI j = -1 := nI_ne_m1 (by omega)
      have b1 : inb (nI j) 16 = true := inb_nI (by omega) (by decide)
      have ej := nI_clamp (show j < 2 ^ 31 by omega)
      have ec := nI_clamp (show c < 2 ^ 31 by omega)
      have b2' : inb (nI c) 60 = true := inb_nI (by omega) (by decide)
      obtain ⟨q1, q2, q3, q4⟩ := r1 j hj
      obtain ⟨n, f, en, ef, hf, hn⟩ : ∃ v f : Nat, gA T 1 j = nI v ∧ gA T 2 j = nI f ∧ f < v ∧ v ≤ 8 := by
        rcases q4 with ⟨_, q⟩ | ⟨i, hi, q, _⟩
        · exact q
        · rw [hm] at q; exact absurd q.symm (nI_ne_m1 (by omega))
      rcases rng a3 (n := n) (by omega) with ⟨v, hv, rfl⟩ | hno
      · have tv := thr_yes hv (show n < 2 ^ 31 by omega)
        have sc := copy_scr hb hc
        have fr1 := copy_fr T c
        have fr2 := give_fr (cpd T c 60) (show j < 16 by omega) (nI v)
        have fr := frS_tr fr1 fr2
        have sc2 := give_scr (v := v) hS sc hj (by omega) (Or.inl (show gA (cpd T c 60) 0 j = -1 from hm))
        obtain ⟨r, S', T', nK', g1, g2, g3, g4, g5, g6, g7⟩ := numbering (relB_scr hb fr) sc2.1 sc2.2
        refine ⟨r, S', T', ?_, ?_, rel_N g3 (relP_fr (relP_scr hp fr) g5 g6)⟩
        · simp only [m_CX_set, eC, e, cK_e, hKc, tc, Option.bind_some, if_neg one0, if_neg d1, if_neg (nI_pos (show v < 2 ^ 31 by omega)), b1, if_true, ej, q1, en, if_pos (nI_lt hv (show n < 2 ^ 31 by omega)), b2', ec]
          show (m_CConfigurations_numberOf S (wv (gB S 0 c) (nI j) (nI v))).bind _ = _
          rw [g1]
          rfl
        · simp only [m_MX_set, eM, e, in_e, hKm, tc, Option.bind_some, if_neg one0, if_neg d1, b1, if_true, ej, en, tv]
          rw [show (60 : Int32) = nI 60 from rfl, copyM T (show c ≤ 60 by omega) (show 60 ≤ 60 by omega) (by omega), Option.bind_some, giveM _ (show j < 16 by omega), Option.bind_some, g2]
          rfl
      · refine ⟨-1, S, T, ?_, ?_, h0⟩
        · simp only [m_CX_set, eC, e, cK_e, hKc, tc, Option.bind_some, if_neg one0, if_neg d1, b1, if_true, ej, q1, en]
          by_cases d : a3 < 0
          · rw [if_pos d]
          · rw [if_neg d, if_neg (Int32.not_lt.mpr (hno.resolve_left d))]
        · simp only [m_MX_set, eM, e, in_e, hKm, tc, Option.bind_some, if_neg one0, if_neg d1, b1, if_true, ej, en, thr_no hno]
  · refine ⟨-1, S, T, ?_, ?_, h0⟩
    · simp only [m_CX_set, eC, cK_e, hKc, thr_no hno, Option.bind_some, if_true]
    · simp only [m_MX_set, eM, in_e, hKm, thr_no hno, Option.bind_some, if_true]
theorem bt0 (s : Nat) : ¬ bt 0 s = true := by rw [b_0]; exact fun h => by cases h
/-- all FALLBACKS, in both -/
theorem conf_l {S : StC} {nS nP nK nQ nT nE nN p : Nat} : ∀ (m i n : Nat) (T : StM) (x : Int64), RelB S T nS nP nK nQ nT nE nN → gA T 4 60 = nI p → Enc x p (fun s => if s < i then (gA T 2 s).toNatClampNeg else 0) → (∀ s, s < i → gA T 5 (16 * 60 + s) = gA T 2 s) → m = nS - i → i ≤ nS → m < n → ∃ (x' : Int64) (T' : StM), L_CX_trimmed_6 S 0 n x (nI i) = some x' ∧ L_MX_configuration_23 n T (nI i) = some T' ∧ FrS T T' ∧ gA T' 4 60 = nI p ∧ Enc x' p (fun s => if s < nS then (gA T 2 s).toNatClampNeg else 0) ∧ ∀ s, s < nS → gA T' 5 (16 * 60 + s) = gA T 2 s := by
  intro m
  induction m with
  | zero =>
    intro i n T x h e4 hx hv hm hi hn
    obtain ⟨n, rfl⟩ : ∃ k, n = k + 1 := ⟨n - 1, by omega⟩
    obtain ⟨⟨hS, hSc, hSm⟩, -⟩ := h
    have e : i = nS := by omega
    subst e
    refine ⟨x, T, ?_, ?_, frS_rf T, e4, hx, hv⟩
    · rw [L_CX_trimmed_6, hSc, if_pos (nI_le (by omega) (by omega))]
    · rw [L_MX_configuration_23, hSm, if_pos (nI_le (by omega) (by omega))]
  | succ m ih =>
    intro i n T x h e4 hx hv hm hi hn
    obtain ⟨n, rfl⟩ : ∃ k, n = k + 1 := ⟨n - 1, by omega⟩
    have h0 := h
    obtain ⟨⟨hS, hSc, hSm⟩, -, -, -, -, -, -, r1, -⟩ := h
    obtain ⟨f, hf, ef, ecf, hm1⟩ := set_ok r1 (show i < nS by omega)
    have b1 : inb (nI i) 16 = true := inb_nI (by omega) (by decide)
    have ei := nI_clamp (show i < 2 ^ 31 by omega)
    have hC : L_CX_trimmed_6 S 0 (n + 1) x (nI i) = L_CX_trimmed_6 S 0 n (wv x (nI i) (nI f)) (nI (i + 1)) := by
      rw [L_CX_trimmed_6, hSc, if_neg (nI_ge (by omega) (by omega)), bitC S 0 (show i < 32 by omega), Option.bind_some, nI_1, if_pos (b2_0.mpr (bt0 i)), if_pos b1, ei, ecf]
      rfl
    have hM : L_MX_configuration_23 (n + 1) T (nI i) = L_MX_configuration_23 n (tA T 5 (nI (960 + i)) (nI f)) (nI (i + 1)) := by
      rw [L_MX_configuration_23, hSm, if_neg (nI_ge (by omega) (by omega)), nI_1, if_pos b1, ei, ef, giveM T (by omega), Option.bind_some]
    rw [hC, hM]
    have fr := give_fr T (show i < 16 by omega) (nI f)
    obtain ⟨x', T', g1, g2, g3, g4, g5, g6⟩ := ih (i + 1) n (tA T 5 (nI (960 + i)) (nI f)) (wv x (nI i) (nI f)) (relB_scr h0 fr) e4 (enc_f (enc_with hx (show i < 16 by omega) hf) (fun s hs => by
      show (if s = i then f else if s < i then (gA T 2 s).toNatClampNeg else 0) = if s < i + 1 then (gA T 2 s).toNatClampNeg else 0
      by_cases c : s = i
      · rw [if_pos c, if_pos (by omega), c, ef, nI_clamp (by omega)]
      · rw [if_neg c]
        by_cases c2 : s < i
        · rw [if_pos c2, if_pos (by omega)]
        · rw [if_neg c2, if_neg (by omega)])) (fun s hs => by
      rw [give_at T (by omega)]
      show _ = gA T 2 s
      by_cases c : s = i
      · rw [if_pos c, c, ef]
      · rw [if_neg c]; exact hv s (by omega)) (by omega) (by omega) (by omega)
    exact ⟨x', T', g1, g2, frS_tr fr g3, g4, g5, g6⟩
theorem op12 : Op12 Rel := by
  intro S T a1 h
  have h0 := h
  obtain ⟨nS, nP, nK, nQ, nT, nE, nN, nR, hall⟩ := h
  obtain ⟨hb, hp⟩ := rel_B hall
  obtain ⟨⟨hS, hSc, hSm⟩, ⟨hP, hPc, hPm⟩, ⟨hK, hKc, hKm⟩, hQ, hT, hE, hN, r1, r2, r3, -⟩ := id hb
  rcases rng a1 (n := nP) (by omega) with ⟨p, hpp, rfl⟩ | hno
  · have tp := thr_yes hpp (show nP < 2 ^ 31 by omega)
    have fr0 : FrS T (tA T 4 60 (nI p)) := by
      refine ⟨fun k k4 _ => ?_, fun _ => rfl, fun c hc => ?_, fun _ _ => rfl⟩
      · rw [gA_tA, if_neg k4]
      · show upd (gA T 4) (60 : Int32).toNatClampNeg (nI p) c = _
        rw [show (60 : Int32).toNatClampNeg = 60 from nI_clamp (n := 60) (by omega), upd_e, if_neg (by omega)]
    have e60 : gA (tA T 4 60 (nI p)) 4 60 = nI p := by
      show upd (gA T 4) (60 : Int32).toNatClampNeg (nI p) 60 = _
      rw [show (60 : Int32).toNatClampNeg = 60 from nI_clamp (n := 60) (by omega), upd_e, if_pos rfl]
    obtain ⟨x', T', g1, g2, g3, g4, g5, g6⟩ := conf_l (p := p) nS 0 100 (tA T 4 60 (nI p)) ((nI p).toInt64 <<< ((48 : Int32).toInt64 &&& 63)) (relB_scr hb fr0) e60 (enc_f (enc_new (show p < 8 by omega)) (fun s _ => by show 0 = if s < 0 then _ else 0; rw [if_neg (by omega)])) (fun s hs => absurd hs (by omega)) (by omega) (by omega) (by omega)
    have fr := frS_tr fr0 g3
    have e0 : gA T' 0 = gA T 0 := fr.1 0 (by decide) (by decide)
    have e2 : ∀ s, gA (tA T 4 60 (nI p)) 2 s = gA T 2 s := fun _ => rfl
    have sc : Scr T' nS nP x' := by
      refine ⟨⟨⟨p, hpp, g4⟩, fun s hs _ => ?_⟩, ?_⟩
      · obtain ⟨f, hf, ef, -⟩ := set_ok r1 hs
        exact ⟨f, hf, (g6 s hs).trans ef⟩
      · rw [g4, nI_clamp (by omega)]
        refine enc_f g5 (fun s hs => ?_)
        unfold rowV
        by_cases c : s < nS
        · rw [if_pos c]
          by_cases c2 : gA T' 0 s = -1
          · rw [if_pos ⟨c, c2⟩, g6 s c]
          · rw [if_neg (fun h => c2 h.2)]
            obtain ⟨f, hf, ef, -, h4⟩ := set_ok r1 c
            rw [e0] at c2
            have : f = 0 := h4.resolve_left c2
            rw [e2, ef, this]; rfl
        · rw [if_neg c, if_neg (fun h => c h.1)]
    obtain ⟨r, S', T2, nK', q1, q2, q3, q4, q5, q6, q7⟩ := numbering (relB_scr hb fr) sc.1 sc.2
    refine ⟨r, S', T2, ?_, ?_, rel_N q3 (relP_fr (relP_scr hp fr) q5 q6)⟩
    · simp only [m_CX_configuration, cP_e, hPc, tp, Option.bind_some, if_neg one0, m_CCodes_onPlatform, m_CX_trimmed]
      rw [show L_CX_trimmed_6 S 0 100 ((nI p).toInt64 <<< ((48 : Int32).toInt64 &&& 63)) 0 = _ from g1, Option.bind_some, Option.bind_some, q1]
      rfl
    · simp only [m_MX_configuration, in_e, hPm, tp, Option.bind_some, if_neg one0, show inb 60 61 = true from rfl, if_true]
      rw [show L_MX_configuration_23 100 (tA T 4 60 (nI p)) 0 = _ from g2, Option.bind_some, q2]
      rfl
  · refine ⟨-1, S, T, ?_, ?_, h0⟩
    · simp only [m_CX_configuration, cP_e, hPc, thr_no hno, Option.bind_some, if_true]
    · simp only [m_MX_configuration, in_e, hPm, thr_no hno, Option.bind_some, if_true]
