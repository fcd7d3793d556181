/-! following a NEED -/
def FGo (nS nP nQ nT nE nN : Nat) (S0 : StC) (T0 : StM) (nK0 nR0 : Nat) (oc : Option (StC ⊕ (Int32 × StC))) (om : Option (StM ⊕ (Int32 × StM))) : Prop := ∃ S' T' nK' nR', Inv S' T' nS nP nK' nQ nT nE nN nR' ∧ nK0 ≤ nK' ∧ nR0 ≤ nR' ∧ Stq S0 S' T0 T' nK0 nR0 ∧ ((oc = some (.inl S') ∧ om = some (.inl T')) ∨ (oc = some (.inr (0, S')) ∧ om = some (.inr (0, T'))))
theorem stp_scr {S : StC} {T T' : StM} {nK nR : Nat} (hK : nK ≤ 60) (g : FrS T T') : Stq S S T T' nK nR := stp_num (frC_rf S nK) (frS_M hK g)
/-- one PAIR more, or none -/
theorem follow_one {S : StC} {T : StM} {nS nP nK nQ nT nE nN nR p c e v w : Nat} {code : Int64} (h : Inv S T nS nP nK nQ nT nE nN nR) (hp : p < nR) (ec : gA S 22 p = nI c) (hc : c < nK) (hcode : gB S 0 c = code) (he : e < nN) (hv : v < 8) (hw : w < 8) : ∃ r S' T' nK' nR' T1 T2 T3, Inv S' T' nS nP nK' nQ nT nE nN nR' ∧ nK ≤ nK' ∧ nR ≤ nR' ∧ Stq S S' T T' nK nR ∧ (r = -1 ∨ ∃ q : Nat, q < nR' ∧ r = nI q) ∧ m_CX_pairOf S (gA S 17 e) (aft (aft code (bsT nS T e 0) v) (bsT nS T e 1) w) = some (r, S') ∧ m_MX_copy T (gA T 25 p) 60 = some T1 ∧ m_MX_turn T1 (nI e) 0 (nI v) = some T2 ∧ m_MX_turn T2 (nI e) 1 (nI w) = some T3 ∧ m_MX_pairOf T3 (gA T3 20 e) = some (r, T') := by
  have h0 := h
  obtain ⟨h1, ⟨h2, h3, h4⟩, h5, h6, h7⟩ := h
  have hK : nK ≤ 60 := h1.2.2.1.1
  obtain ⟨t', c', a1, a2, a3, a4, a5, a6, -⟩ := h6 p hp
  have ecc : c' = c := nI_inj (by omega) (by omega) (a5.symm.trans ec)
  rw [ecc] at a6
  obtain ⟨-, ⟨tt, ht, et, etm⟩, -⟩ := needOf h1 he
  have f0 := copy_fr T c
  have sc0 : Scr (cpd T c 60) nS nP code := by rw [← hcode]; exact copy_scr h1 hc
  have r0 := relB_scr h1 f0
  obtain ⟨T1, m1, f1, sc1⟩ := turn_scr (i := 0) r0 he (by omega) hv sc0
  have r1 := relB_scr r0 f1
  obtain ⟨T2, m2, f2, sc2⟩ := turn_scr (i := 1) r1 he (by omega) hw sc1
  have b0 : bsT nS (cpd T c 60) e 0 = bsT nS T e 0 := bs_st (stT_M (frS_M hK f0)) nS e 0
  have b1 : bsT nS T1 e 1 = bsT nS T e 1 := bs_st (stT_M (frS_M hK (frS_tr f0 f1))) nS e 1
  rw [b1, b0] at sc2
  have f := frS_tr (frS_tr f0 f1) f2
  obtain ⟨r, S', T', nK', nR', q1, q2, q3, q4, q5, q6, q7⟩ := pairOfCM (inv_scr h0 f) sc2 ht
  have e20 : gA T2 20 e = nI tt := by rw [f.1 20 (by decide) (by decide)]; exact etm
  refine ⟨r, S', T', nK', nR', cpd T c 60, T1, T2, q3, q4, q5, stp_tr (stp_scr (nR := nR) hK f) q6 (Nat.le_refl _) (Nat.le_refl _), q7, ?_, ?_, m1, m2, ?_⟩
  · rw [et]; exact q1
  · rw [a6]; exact copyM (b := 60) T (show c ≤ 60 by omega) (show 60 ≤ 60 by omega) (by omega)
  · rw [e20]; exact q2
theorem stp_lead (S : StC) (T : StM) (nK nR : Nat) (a b v : Int32) (x : Int64) : Stq S (tB S 2 a x) T (tA T 27 b v) nK nR := ⟨fun _ _ => ⟨rfl, rfl⟩, fun _ _ => rfl, fun k hk _ _ => by rw [gA_tA, if_neg (by omega)]⟩
theorem follow_in {nS nP nQ nT nE nN p c e v0 nK0 nR0 : Nat} {code : Int64} {S0 : StC} {T0 : StM} {b0 b1 z1 : Int32} (z0 : Int32) (he : e < nN) (hv0 : v0 < 8) (hp : p < nR0) (hc : c < nK0) (ec : gA S0 22 p = nI c) (hcode : gB S0 0 c = code) (eb0 : bsT nS T0 e 0 = b0) (eb1 : bsT nS T0 e 1 = b1) (hz1 : ∀ v, v < 8 → (bt z1 v = true ↔ tnT nS T0 e 1 v)) (t0 : tnT nS T0 e 0 v0) : ∀ (m i n n' : Nat) (S : StC) (T : StM) (nK nR : Nat), Inv S T nS nP nK nQ nT nE nN nR → nK0 ≤ nK → nR0 ≤ nR → Stq S0 S T0 T nK0 nR0 → m = 8 - i → i ≤ 8 → m < n → m < n' → FGo nS nP nQ nT nE nN S0 T0 nK0 nR0 (L_CX_followNeed_90 (nI p) (nI e) code b0 b1 z0 z1 (nI v0) (aft code b0 v0) n S (nI i)) (L_MX_follow_11 (nI p) (nI e) (nI v0) n' T (nI i)) := by
  intro m
  induction m with
  | zero =>
    intro i n n' S T nK nR h hk hr hst hm hi hn hn'
    obtain ⟨n, rfl⟩ : ∃ k, n = k + 1 := ⟨n - 1, by omega⟩
    obtain ⟨n', rfl⟩ : ∃ k, n' = k + 1 := ⟨n' - 1, by omega⟩
    have l8 : (8 : Int32) ≤ nI i := nI_le (a := 8) (by omega) (by omega)
    rw [L_CX_followNeed_90, if_pos l8, L_MX_follow_11, if_pos l8]
    exact ⟨S, T, nK, nR, h, hk, hr, hst, Or.inl ⟨rfl, rfl⟩⟩
  | succ m ih =>
    intro i n n' S T nK nR h hk hr hst hm hi hn hn'
    obtain ⟨n, rfl⟩ : ∃ k, n = k + 1 := ⟨n - 1, by omega⟩
    obtain ⟨n', rfl⟩ : ∃ k, n' = k + 1 := ⟨n' - 1, by omega⟩
    have l8 : ¬ (8 : Int32) ≤ nI i := nI_ge (b := 8) (by omega) (by decide)
    have hN : nN ≤ 40 := h.1.2.2.2.2.2.2.1.1
    have hR : nR ≤ 60 := h.2.1.1
    have hi8 : i < 8 := by omega
    have st : StT T0 T := hst.2.2
    have tM0 : m_MX_isTurn T (nI e) 0 (nI v0) = some 1 := (turnM (i := 0) h.1 he (by omega) hv0).trans (by rw [b2_t ((tn_st st nS e 0 v0).mpr t0)])
    have tM1 : m_MX_isTurn T (nI e) 1 (nI i) = some (b2 (tnT nS T0 e 1 i)) := (turnM (i := 1) h.1 he (by omega) hi8).trans (by rw [b2_iff (tn_st st nS e 1 i)])
    have z := hz1 i hi8
    by_cases tn : tnT nS T0 e 1 i
    · obtain ⟨r, S', T', nK', nR', T1, T2, T3, f1, f2, f3, f4, f5, f6, g1, g2, g3, g4⟩ := follow_one h (show p < nR by omega) ((hst.1 p hp).2.trans ec) (show c < nK by omega) ((hst.2.1 c hc).trans hcode) he hv0 hi8
      rw [(bs_st st nS e 0).trans eb0, (bs_st st nS e 1).trans eb1] at f6
      have eC : L_CX_followNeed_90 (nI p) (nI e) code b0 b1 z0 z1 (nI v0) (aft code b0 v0) (n + 1) S (nI i) = if r = -1 then some (.inr (0, S')) else L_CX_followNeed_90 (nI p) (nI e) code b0 b1 z0 z1 (nI v0) (aft code b0 v0) n (tB S' 2 (nI p) (gB S' 2 p ||| ((1 : Int64) <<< (r.toInt64 &&& 63)))) (nI (i + 1)) := by
        rw [L_CX_followNeed_90, if_neg l8, bitC S z1 (show i < 32 by omega), Option.bind_some, if_neg (fun o => b2_0.mp o (z.mpr tn)), if_pos (inb_nI (show e < 40 by omega) (by decide)), nI_clamp (show e < 2 ^ 31 by omega), aftC, Option.bind_some, f6, Option.bind_some, if_pos (inb_nI (show p < 60 by omega) (by decide)), nI_clamp (show p < 2 ^ 31 by omega), nI_1]
      have eM : L_MX_follow_11 (nI p) (nI e) (nI v0) (n' + 1) T (nI i) = if r = -1 then some (.inr (0, T')) else if inb ((60 : Int32) * nI p + r) 3721 = true then L_MX_follow_11 (nI p) (nI e) (nI v0) n' (tA T' 27 ((60 : Int32) * nI p + r) (vp_nar .boolean 1)) (nI (i + 1)) else none := by
        rw [L_MX_follow_11, if_neg l8, tM0, Option.bind_some, if_neg one0, tM1, b2_t tn, Option.bind_some, if_neg one0, if_pos (inb_nI (show p < 61 by omega) (by decide)), nI_clamp (show p < 2 ^ 31 by omega), g1, Option.bind_some, g2, Option.bind_some, g3, Option.bind_some, if_pos (inb_nI (show e < 40 by omega) (by decide)), nI_clamp (show e < 2 ^ 31 by omega), g4, Option.bind_some, nI_1]
      rw [eC, eM]
      have s1 := stp_tr hst f4 hk hr
      rcases f5 with o | ⟨q, hq, o⟩
      · rw [if_pos o, if_pos o]
        exact ⟨S', T', nK', nR', f1, by omega, by omega, s1, Or.inr ⟨rfl, rfl⟩⟩
      · have hR' : nR' ≤ 60 := f1.2.1.1
        have ne : ¬ r = -1 := by rw [o]; exact nI_ne_m1 (by omega)
        rw [if_neg ne, if_neg ne, o, ixm60, if_pos (inb_nI (show 60 * p + q < 3721 by omega) (by decide))]
        exact ih (i + 1) n n' _ _ nK' nR' (inv_lead f1 (show p < nR' by omega) hq) (by omega) (by omega) (stp_tr s1 (stp_lead S' T' nK' nR' _ _ _ _) (by omega) (by omega)) (by omega) (by omega) (by omega) (by omega)
    · rw [L_CX_followNeed_90, if_neg l8, bitC S z1 (show i < 32 by omega), Option.bind_some, if_pos (b2_0.mpr (fun o => tn (z.mp o))), nI_1, L_MX_follow_11, if_neg l8, tM0, Option.bind_some, if_neg one0, tM1, b2_f tn, Option.bind_some, if_pos rfl, nI_1]
      exact ih (i + 1) n n' S T nK nR h hk hr hst (by omega) (by omega) (by omega) (by omega)
theorem follow_idle {S : StC} {T : StM} {nS nP nK nQ nT nE nN e v0 : Nat} (x1 : Int32) (h : RelB S T nS nP nK nQ nT nE nN) (he : e < nN) (hv0 : v0 < 8) (no : ¬ tnT nS T e 0 v0) : ∀ (m i n : Nat), m = 8 - i → i ≤ 8 → m < n → L_MX_follow_11 x1 (nI e) (nI v0) n T (nI i) = some (.inl T) := by
  intro m
  induction m with
  | zero =>
    intro i n hm hi hn
    obtain ⟨n, rfl⟩ : ∃ k, n = k + 1 := ⟨n - 1, by omega⟩
    have l8 : (8 : Int32) ≤ nI i := nI_le (a := 8) (by omega) (by omega)
    rw [L_MX_follow_11, if_pos l8]
  | succ m ih =>
    intro i n hm hi hn
    obtain ⟨n, rfl⟩ : ∃ k, n = k + 1 := ⟨n - 1, by omega⟩
    have l8 : ¬ (8 : Int32) ≤ nI i := nI_ge (b := 8) (by omega) (by decide)
    have tM0 : m_MX_isTurn T (nI e) 0 (nI v0) = some 0 := (turnM (i := 0) h he (by omega) hv0).trans (by rw [b2_f no])
    rw [L_MX_follow_11, if_neg l8, tM0, Option.bind_some, if_pos rfl, nI_1]
    exact ih (i + 1) n (by omega) (by omega) (by omega)
theorem follow_out {nS nP nQ nT nE nN p c e nK0 nR0 : Nat} {code : Int64} {S0 : StC} {T0 : StM} {b0 b1 z0 z1 : Int32} (he : e < nN) (hp : p < nR0) (hc : c < nK0) (ec : gA S0 22 p = nI c) (hcode : gB S0 0 c = code) (eb0 : bsT nS T0 e 0 = b0) (eb1 : bsT nS T0 e 1 = b1) (hz0 : ∀ v, v < 8 → (bt z0 v = true ↔ tnT nS T0 e 0 v)) (hz1 : ∀ v, v < 8 → (bt z1 v = true ↔ tnT nS T0 e 1 v)) : ∀ (m i n n' : Nat) (S : StC) (T : StM) (nK nR : Nat), Inv S T nS nP nK nQ nT nE nN nR → nK0 ≤ nK → nR0 ≤ nR → Stq S0 S T0 T nK0 nR0 → m = 8 - i → i ≤ 8 → m < n → m < n' → FGo nS nP nQ nT nE nN S0 T0 nK0 nR0 (L_CX_followNeed_57 (nI p) (nI e) code b0 b1 z0 z1 n S (nI i)) (L_MX_follow_2 (nI p) (nI e) n' T (nI i)) := by
  intro m
  induction m with
  | zero =>
    intro i n n' S T nK nR h hk hr hst hm hi hn hn'
    obtain ⟨n, rfl⟩ : ∃ k, n = k + 1 := ⟨n - 1, by omega⟩
    obtain ⟨n', rfl⟩ : ∃ k, n' = k + 1 := ⟨n' - 1, by omega⟩
    have l8 : (8 : Int32) ≤ nI i := nI_le (a := 8) (by omega) (by omega)
    rw [L_CX_followNeed_57, if_pos l8, L_MX_follow_2, if_pos l8]
    exact ⟨S, T, nK, nR, h, hk, hr, hst, Or.inl ⟨rfl, rfl⟩⟩
  | succ m ih =>
    intro i n n' S T nK nR h hk hr hst hm hi hn hn'
    obtain ⟨n, rfl⟩ : ∃ k, n = k + 1 := ⟨n - 1, by omega⟩
    obtain ⟨n', rfl⟩ : ∃ k, n' = k + 1 := ⟨n' - 1, by omega⟩
    have l8 : ¬ (8 : Int32) ≤ nI i := nI_ge (b := 8) (by omega) (by decide)
    have hi8 : i < 8 := by omega
    have st : StT T0 T := hst.2.2
    have z := hz0 i hi8
    by_cases tn : tnT nS T0 e 0 i
    · obtain ⟨S', T', nK', nR', f1, f2, f3, f4, f5⟩ := follow_in z0 he hi8 hp hc ec hcode eb0 eb1 hz1 tn 8 0 100 100 S T nK nR h hk hr hst (by omega) (by omega) (by omega) (by omega)
      rcases f5 with ⟨g1, g2⟩ | ⟨g1, g2⟩
      · have eC : L_CX_followNeed_57 (nI p) (nI e) code b0 b1 z0 z1 (n + 1) S (nI i) = L_CX_followNeed_57 (nI p) (nI e) code b0 b1 z0 z1 n S' (nI (i + 1)) := by
          rw [L_CX_followNeed_57, if_neg l8, bitC S z0 (show i < 32 by omega), Option.bind_some, if_neg (fun o => b2_0.mp o (z.mpr tn)), aftC, Option.bind_some, show L_CX_followNeed_90 (nI p) (nI e) code b0 b1 z0 z1 (nI i) (aft code b0 i) 100 S 0 = _ from g1, Option.bind_some, nI_1]
          rfl
        have eM : L_MX_follow_2 (nI p) (nI e) (n' + 1) T (nI i) = L_MX_follow_2 (nI p) (nI e) n' T' (nI (i + 1)) := by
          rw [L_MX_follow_2, if_neg l8, show L_MX_follow_11 (nI p) (nI e) (nI i) 100 T 0 = _ from g2, Option.bind_some, nI_1]
          rfl
        rw [eC, eM]
        exact ih (i + 1) n n' S' T' nK' nR' f1 f2 f3 f4 (by omega) (by omega) (by omega) (by omega)
      · have eC : L_CX_followNeed_57 (nI p) (nI e) code b0 b1 z0 z1 (n + 1) S (nI i) = some (.inr (0, S')) := by
          rw [L_CX_followNeed_57, if_neg l8, bitC S z0 (show i < 32 by omega), Option.bind_some, if_neg (fun o => b2_0.mp o (z.mpr tn)), aftC, Option.bind_some, show L_CX_followNeed_90 (nI p) (nI e) code b0 b1 z0 z1 (nI i) (aft code b0 i) 100 S 0 = _ from g1, Option.bind_some]
          rfl
        have eM : L_MX_follow_2 (nI p) (nI e) (n' + 1) T (nI i) = some (.inr (0, T')) := by
          rw [L_MX_follow_2, if_neg l8, show L_MX_follow_11 (nI p) (nI e) (nI i) 100 T 0 = _ from g2, Option.bind_some]
          rfl
        rw [eC, eM]
        exact ⟨S', T', nK', nR', f1, f2, f3, f4, Or.inr ⟨rfl, rfl⟩⟩
    · have g2 := follow_idle (nI p) h.1 he hi8 (fun o => tn ((tn_st st nS e 0 i).mp o)) 8 0 100 (by omega) (by omega) (by omega)
      have eM : L_MX_follow_2 (nI p) (nI e) (n' + 1) T (nI i) = L_MX_follow_2 (nI p) (nI e) n' T (nI (i + 1)) := by
        rw [L_MX_follow_2, if_neg l8, show L_MX_follow_11 (nI p) (nI e) (nI i) 100 T 0 = _ from g2, Option.bind_some, nI_1]
        rfl
      rw [L_CX_followNeed_57, if_neg l8, bitC S z0 (show i < 32 by omega), Option.bind_some, if_pos (b2_0.mpr (fun o => tn (z.mp o))), nI_1, eM]
      exact ih (i + 1) n n' S T nK nR h hk hr hst (by omega) (by omega) (by omega) (by omega)
/-- all PAIRS of a NEED -/
theorem followCM {S : StC} {T : StM} {nS nP nK nQ nT nE nN nR p e : Nat} (h : Inv S T nS nP nK nQ nT nE nN nR) (hp : p < nR) (he : e < nN) : ∃ f S' T' nK' nR', m_CX_followNeed S (nI p) (nI e) = some (f, S') ∧ m_MX_follow T (nI p) (nI e) = some (f, T') ∧ Inv S' T' nS nP nK' nQ nT nE nN nR' ∧ nR ≤ nR' ∧ (f = 0 ∨ f = 1) := by
  have hR : nR ≤ 60 := h.2.1.1
  have hK : nK ≤ 60 := h.1.2.2.1.1
  obtain ⟨t, c, a1, a2, a3, a4, a5, a6, -⟩ := h.2.2.2.1 p hp
  obtain ⟨z0, e0, hz0⟩ := turnsC (i := 0) h.1 he (by omega)
  obtain ⟨z1, e1, hz1⟩ := turnsC (i := 1) h.1 he (by omega)
  have c0 := chgC (i := 0) h.1 he (by omega)
  have c1 := chgC (i := 1) h.1 he (by omega)
  obtain ⟨S', T', nK', nR', f1, f2, f3, f4, f5⟩ := follow_out (code := gB S 0 c) he hp a2 a5 rfl rfl rfl hz0 hz1 8 0 100 100 S T nK nR h (Nat.le_refl _) (Nat.le_refl _) (stp_rf S T nK nR) (by omega) (by omega) (by omega) (by omega)
  have eC : m_CX_followNeed S (nI p) (nI e) = (L_CX_followNeed_57 (nI p) (nI e) (gB S 0 c) (bsT nS T e 0) (bsT nS T e 1) z0 z1 100 S (nI 0)).bind fun o16 => exK o16 fun y17 => some (1, y17) := by
    unfold m_CX_followNeed
    rw [if_pos (inb_nI (show p < 60 by omega) (by decide)), nI_clamp (show p < 2 ^ 31 by omega), a5, if_pos (inb_nI (show c < 60 by omega) (by decide)), nI_clamp (show c < 2 ^ 31 by omega), show m_CX_changedBase S (nI e) 0 = _ from c0, Option.bind_some, show m_CX_changedBase S (nI e) 1 = _ from c1, Option.bind_some, show m_CX_turnsOf S (nI e) 0 _ = _ from e0, Option.bind_some, show m_CX_turnsOf S (nI e) 1 _ = _ from e1, Option.bind_some]
    try rfl
  have eM : m_MX_follow T (nI p) (nI e) = (L_MX_follow_2 (nI p) (nI e) 100 T (nI 0)).bind fun o12 => exK o12 fun y13 => some (1, y13) := rfl
  rw [eC, eM]
  rcases f5 with ⟨g1, g2⟩ | ⟨g1, g2⟩
  · rw [g1, g2]
    exact ⟨1, S', T', nK', nR', rfl, rfl, f1, f3, Or.inr rfl⟩
  · rw [g1, g2]
    exact ⟨0, S', T', nK', nR', rfl, rfl, f1, f3, Or.inl rfl⟩
