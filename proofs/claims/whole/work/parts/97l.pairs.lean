/-! numbering PAIRS -/
theorem gA_pA (S : St9) (k : Nat) (f : Nat → Int32) (j : Nat) : gA (pA S k f) j = if j = k then f else gA S j := rfl
theorem pairC_l (S : StC) (nR : Nat) (x1 x2 : Int32) (hR : nR ≤ 60) (e : gI S 7 = nI nR) : ∀ (m i n : Nat), m = nR - i → i ≤ nR → m < n → ((∀ p, i ≤ p → p < nR → ¬ (gA S 21 p = x1 ∧ gA S 22 p = x2)) → L_CPairs_numberOf_2 S x1 x2 n (nI i) = some (.inl ())) ∧ (∀ p, i ≤ p → p < nR → (gA S 21 p = x1 ∧ gA S 22 p = x2) → (∀ d, i ≤ d → d < p → ¬ (gA S 21 d = x1 ∧ gA S 22 d = x2)) → L_CPairs_numberOf_2 S x1 x2 n (nI i) = some (.inr (nI p, S))) := by
  intro m
  induction m with
  | zero =>
    intro i n hm hi hn
    obtain ⟨n, rfl⟩ : ∃ k, n = k + 1 := ⟨n - 1, by omega⟩
    refine ⟨fun _ => ?_, fun c h1 h2 => absurd h2 (by omega)⟩
    rw [L_CPairs_numberOf_2, e, if_pos (nI_le (by omega) (by omega))]
  | succ m ih =>
    intro i n hm hi hn
    obtain ⟨n, rfl⟩ : ∃ k, n = k + 1 := ⟨n - 1, by omega⟩
    obtain ⟨g1, g2⟩ := ih (i + 1) n (by omega) (by omega) (by omega)
    have hu : L_CPairs_numberOf_2 S x1 x2 (n + 1) (nI i) = if b2 (gA S 21 i = x1 ∧ gA S 22 i = x2) = 0 then L_CPairs_numberOf_2 S x1 x2 n (nI (i + 1)) else some (.inr (nI i, S)) := by
      rw [L_CPairs_numberOf_2, e, if_neg (nI_ge (by omega) (by omega)), if_pos (inb_nI (show i < 60 by omega) (by decide)), nI_clamp (show i < 2 ^ 31 by omega), nI_1]
      by_cases a : gA S 21 i = x1
      · rw [if_pos a]
        by_cases b : gA S 22 i = x2
        · rw [if_pos b, b2_t ⟨a, b⟩, if_neg one0]
        · rw [if_neg b, b2_f (fun o => b o.2), if_pos rfl]
      · rw [if_neg a, b2_f (fun o => a o.1), if_pos rfl]
    rw [hu]
    refine ⟨fun h => ?_, fun c c1 c2 c3 c4 => ?_⟩
    · rw [if_pos (b2_0.mpr (h i (Nat.le_refl _) (by omega)))]
      exact g1 (fun c h1 h2 => h c (by omega) h2)
    · by_cases e : c = i
      · subst e; rw [if_neg (fun h => b2_0.mp h c3)]
      · rw [if_pos (b2_0.mpr (c4 i (Nat.le_refl _) (by omega)))]
        exact g2 c (by omega) c2 c3 (fun d h1 h2 => c4 d (by omega) h2)
theorem pairM_l (S : StM) (nR : Nat) (x1 x2 : Int32) (hR : nR ≤ 60) (e : gI S 15 = nI nR) : ∀ (m i n : Nat), m = nR - i → i ≤ nR → m < n → ((∀ p, i ≤ p → p < nR → ¬ (gA S 24 p = x1 ∧ gA S 25 p = x2)) → L_MX_pairOf_15 S x1 x2 n (nI i) = some (.inl ())) ∧ (∀ p, i ≤ p → p < nR → (gA S 24 p = x1 ∧ gA S 25 p = x2) → (∀ d, i ≤ d → d < p → ¬ (gA S 24 d = x1 ∧ gA S 25 d = x2)) → L_MX_pairOf_15 S x1 x2 n (nI i) = some (.inr (nI p, S))) := by
  intro m
  induction m with
  | zero =>
    intro i n hm hi hn
    obtain ⟨n, rfl⟩ : ∃ k, n = k + 1 := ⟨n - 1, by omega⟩
    refine ⟨fun _ => ?_, fun c h1 h2 => absurd h2 (by omega)⟩
    rw [L_MX_pairOf_15, e, if_pos (nI_le (by omega) (by omega))]
  | succ m ih =>
    intro i n hm hi hn
    obtain ⟨n, rfl⟩ : ∃ k, n = k + 1 := ⟨n - 1, by omega⟩
    obtain ⟨g1, g2⟩ := ih (i + 1) n (by omega) (by omega) (by omega)
    have hu : L_MX_pairOf_15 S x1 x2 (n + 1) (nI i) = if b2 (gA S 24 i = x1 ∧ gA S 25 i = x2) = 0 then L_MX_pairOf_15 S x1 x2 n (nI (i + 1)) else some (.inr (nI i, S)) := by
      rw [L_MX_pairOf_15, e, if_neg (nI_ge (by omega) (by omega)), if_pos (inb_nI (show i < 61 by omega) (by decide)), nI_clamp (show i < 2 ^ 31 by omega), nI_1]
      by_cases a : gA S 24 i = x1
      · rw [if_pos a]
        by_cases b : gA S 25 i = x2
        · rw [if_pos b, b2_t ⟨a, b⟩, if_neg one0]
        · rw [if_neg b, b2_f (fun o => b o.2), if_pos rfl]
      · rw [if_neg a, b2_f (fun o => a o.1), if_pos rfl]
    rw [hu]
    refine ⟨fun h => ?_, fun c c1 c2 c3 c4 => ?_⟩
    · rw [if_pos (b2_0.mpr (h i (Nat.le_refl _) (by omega)))]
      exact g1 (fun c h1 h2 => h c (by omega) h2)
    · by_cases e : c = i
      · subst e; rw [if_neg (fun h => b2_0.mp h c3)]
      · rw [if_pos (b2_0.mpr (c4 i (Nat.le_refl _) (by omega)))]
        exact g2 c (by omega) c2 c3 (fun d h1 h2 => c4 d (by omega) h2)
theorem zeroM (T : StM) (nR : Nat) (hR : nR < 60) (e : gI T 15 = nI nR) : ∀ (m i n : Nat) (g : Nat → Int32), m = nR + 1 - i → i ≤ nR + 1 → m < n → ∃ g', L_MX_pairOf_122 n (pA T 27 g) (nI i) = some (pA T 27 g') ∧ ∀ p q, p < 60 → q < 60 → g' (60 * p + q) = if (q = nR ∧ i ≤ p ∧ p ≤ nR) ∨ (p = nR ∧ i ≤ q ∧ q ≤ nR) then 0 else g (60 * p + q) := by
  intro m
  induction m with
  | zero =>
    intro i n g hm hi hn
    obtain ⟨n, rfl⟩ : ∃ k, n = k + 1 := ⟨n - 1, by omega⟩
    refine ⟨g, ?_, fun p q _ _ => by rw [if_neg (by omega)]⟩
    rw [L_MX_pairOf_122, show gI (pA T 27 g) 15 = nI nR from e, if_pos (nI_lt (by omega) (by omega))]
  | succ m ih =>
    intro i n g hm hi hn
    obtain ⟨n, rfl⟩ : ∃ k, n = k + 1 := ⟨n - 1, by omega⟩
    obtain ⟨g', q1, q2⟩ := ih (i + 1) n (upd (upd g (60 * i + nR) 0) (60 * nR + i) 0) (by omega) (by omega) (by omega)
    refine ⟨g', ?_, fun p q hp hq => ?_⟩
    · rw [L_MX_pairOf_122, show gI (pA T 27 g) 15 = nI nR from e, if_neg (nI_nlt (by omega) (by omega)), ixm60, ixm60, if_pos (inb_nI (show 60 * i + nR < 3721 by omega) (by decide)), if_pos (inb_nI (show 60 * nR + i < 3721 by omega) (by decide)), tA_pA, tA_pA, nI_clamp (show 60 * i + nR < 2 ^ 31 by omega), nI_clamp (show 60 * nR + i < 2 ^ 31 by omega), nI_1]
      exact q1
    · rw [q2 p q hp hq, upd_e, upd_e]
      by_cases c1 : (q = nR ∧ i + 1 ≤ p ∧ p ≤ nR) ∨ (p = nR ∧ i + 1 ≤ q ∧ q ≤ nR)
      · rw [if_pos c1, if_pos (by omega)]
      · rw [if_neg c1]
        by_cases c2 : 60 * p + q = 60 * nR + i
        · rw [if_pos c2, if_pos (by omega)]
        · rw [if_neg c2]
          by_cases c3 : 60 * p + q = 60 * i + nR
          · rw [if_pos c3, if_pos (by omega)]
          · rw [if_neg c3, if_neg (by omega)]
/-- the reference's way from a number to a PAIR -/
def tailM (T : StM) (x1 x2 : Int32) : Option (Int32 × StM) :=
  (L_MX_pairOf_15 T x1 x2 100 0).bind fun o3 => exK o3 fun _ =>
    if (gI T 15) = 60 then some ((-1), T)
    else if inb (gI T 15) 61 = true then if inb x1 16 = true then if (gA T 17 x1.toNatClampNeg) = (-1) then (L_MX_pairOf_122 100 (tA (tA (tA T 24 (gI T 15) x1) 25 (gI T 15) x2) 26 (gI T 15) 0) 0).bind fun y10 =>
    some (((gI y10 15) + (1 : Int32)) - (1 : Int32), sI y10 15 ((gI y10 15) + (1 : Int32)))
    else (m_MX_isHolding (tA (tA T 24 (gI T 15) x1) 25 (gI T 15) x2) (gA T 17 x1.toNatClampNeg) x2).bind fun q11 =>
    if q11 = 0 then (L_MX_pairOf_122 100 (tA (tA (tA T 24 (gI T 15) x1) 25 (gI T 15) x2) 26 (gI T 15) 1) 0).bind fun y15 =>
    some (((gI y15 15) + (1 : Int32)) - (1 : Int32), sI y15 15 ((gI y15 15) + (1 : Int32)))
    else (L_MX_pairOf_122 100 (tA (tA (tA T 24 (gI T 15) x1) 25 (gI T 15) x2) 26 (gI T 15) 0) 0).bind fun y13 =>
    some (((gI y13 15) + (1 : Int32)) - (1 : Int32), sI y13 15 ((gI y13 15) + (1 : Int32))) else none else none
theorem pairOfM_e (T : StM) (x1 : Int32) : m_MX_pairOf T x1 = (m_MX_trimmed T x1).bind fun q1 => if q1.1 = (-1) then some ((-1), q1.2) else tailM q1.2 x1 q1.1 := rfl
theorem tail_new {S : StC} {T : StM} {nS nP nK nQ nT nE nN nR t c : Nat} (h : Inv S T nS nP nK nQ nT nE nN nR) (ht : t < nT) (hc : c < nK) (h60 : nR < 60) (hno : ∀ p, p < nR → ¬ (gA T 24 p = nI t ∧ gA T 25 p = nI c)) : ∃ g', tailM T (nI t) (nI c) = some (nI nR, sI (pA (tA (tA (tA T 24 (nI nR) (nI t)) 25 (nI nR) (nI c)) 26 (nI nR) (b2 (wfT nS T t c))) 27 g') 15 (nI (nR + 1))) ∧ ∀ p q, p < 60 → q < 60 → g' (60 * p + q) = if (q = nR ∧ 0 ≤ p ∧ p ≤ nR) ∨ (p = nR ∧ 0 ≤ q ∧ q ≤ nR) then 0 else gA T 27 (60 * p + q) := by
  obtain ⟨h1, ⟨h2, h3, h4⟩, -⟩ := h
  have hT : nT ≤ 16 := h1.2.2.2.2.1.1
  have hK : nK ≤ 60 := h1.2.2.1.1
  have hQ : nQ ≤ 40 := h1.2.2.2.1.1
  have r6 : RTar nT nQ (gA S 7) (gA T 17) := by
    obtain ⟨-, -, -, -, -, -, -, r1, r2, r3, r4, r5, r6, -⟩ := h1
    exact r6
  obtain ⟨g', q1, q2⟩ := zeroM (tA (tA (tA T 24 (nI nR) (nI t)) 25 (nI nR) (nI c)) 26 (nI nR) (b2 (wfT nS T t c))) nR h60 h4 (nR + 1) 0 100 (gA T 27) (by omega) (by omega) (by omega)
  refine ⟨g', ?_, q2⟩
  have e0 : pA (tA (tA (tA T 24 (nI nR) (nI t)) 25 (nI nR) (nI c)) 26 (nI nR) (b2 (wfT nS T t c))) 27 (gA T 27) = tA (tA (tA T 24 (nI nR) (nI t)) 25 (nI nR) (nI c)) 26 (nI nR) (b2 (wfT nS T t c)) := pA_self (tA (tA (tA T 24 (nI nR) (nI t)) 25 (nI nR) (nI c)) 26 (nI nR) (b2 (wfT nS T t c))) 27
  rw [e0] at q1
  have e1 := (pairM_l T nR (nI t) (nI c) h2 h4 nR 0 100 (by omega) (by omega) (by omega)).1 (fun p _ hp => hno p hp)
  have fin : ∀ o : Int32, o = b2 (wfT nS T t c) → ((L_MX_pairOf_122 100 (tA (tA (tA T 24 (nI nR) (nI t)) 25 (nI nR) (nI c)) 26 (nI nR) o) 0).bind fun y10 => some (((gI y10 15) + (1 : Int32)) - (1 : Int32), sI y10 15 ((gI y10 15) + (1 : Int32)))) = some (nI nR, sI (pA (tA (tA (tA T 24 (nI nR) (nI t)) 25 (nI nR) (nI c)) 26 (nI nR) (b2 (wfT nS T t c))) 27 g') 15 (nI (nR + 1))) := by
    rintro o rfl
    rw [show L_MX_pairOf_122 100 (tA (tA (tA T 24 (nI nR) (nI t)) 25 (nI nR) (nI c)) 26 (nI nR) (b2 (wfT nS T t c))) 0 = _ from q1, Option.bind_some]
    rw [show gI (pA (tA (tA (tA T 24 (nI nR) (nI t)) 25 (nI nR) (nI c)) 26 (nI nR) (b2 (wfT nS T t c))) 27 g') 15 = nI nR from h4, inc_dec, nI_1]
  have n60 : ¬ nI nR = 60 := fun e => by
    have := nI_inj (b := 60) (by omega) (by decide) e
    omega
  unfold tailM
  rw [show L_MX_pairOf_15 T (nI t) (nI c) 100 0 = _ from e1, Option.bind_some]
  show (if gI T 15 = 60 then _ else _) = _
  rw [h4, if_neg n60, if_pos (inb_nI (show nR < 61 by omega) (by decide)), if_pos (inb_nI (show t < 16 by omega) (by decide)), nI_clamp (show t < 2 ^ 31 by omega)]
  rcases (r6 t ht).2 with e | ⟨q, hq, e⟩
  · rw [if_pos e]
    exact fin 0 (b2_f (fun ⟨q, a, b, _⟩ => nI_ne_m1 (by omega) (b.symm.trans e))).symm
  · rw [e, if_neg (nI_ne_m1 (by omega))]
    have hb : RelB S (tA (tA T 24 (nI nR) (nI t)) 25 (nI nR) (nI c)) nS nP nK nQ nT nE nN := h1
    have hr : RowX (tA (tA T 24 (nI nR) (nI t)) 25 (nI nR) (nI c)) nS nP c (gB S 0 c) := row_of h1 hc
    rw [holdM hb (show q < 40 by omega) (show c ≤ 60 by omega) hr, Option.bind_some]
    have ew : wfT nS T t c ↔ ¬ hldT nS T q c := ⟨fun ⟨q', a, b, d⟩ => by
      have : q' = q := nI_inj (by omega) (by omega) (b.symm.trans e)
      rw [← this]; exact d, fun d => ⟨q, by omega, e, d⟩⟩
    by_cases o : hldT nS T q c
    · rw [show b2 (hldT nS (tA (tA T 24 (nI nR) (nI t)) 25 (nI nR) (nI c)) q c) = 1 from b2_t o, if_neg one0]
      exact fin 0 (b2_f (fun w => ew.mp w o)).symm
    · rw [show b2 (hldT nS (tA (tA T 24 (nI nR) (nI t)) 25 (nI nR) (nI c)) q c) = 0 from b2_f o, if_pos rfl]
      exact fin 1 (b2_t (ew.mpr o)).symm
theorem pairNum {S : StC} {T : StM} {nS nP nK nQ nT nE nN nR t c : Nat} (h : Inv S T nS nP nK nQ nT nE nN nR) (ht : t < nT) (hc : c < nK) : ∃ r S' T' nR', m_CPairs_numberOf S (nI t) (nI c) = some (r, S') ∧ tailM T (nI t) (nI c) = some (r, T') ∧ Inv S' T' nS nP nK nQ nT nE nN nR' ∧ nR ≤ nR' ∧ Stq S S' T T' nK nR ∧ (r = -1 ∨ ∃ p : Nat, p < nR' ∧ r = nI p) := by
  have h0 := h
  obtain ⟨h1, ⟨h2, h3, h4⟩, h5, h6, h7⟩ := h
  have hT : nT ≤ 16 := h1.2.2.2.2.1.1
  have hK : nK ≤ 60 := h1.2.2.1.1
  have hm : ∀ p, p < nR → (gA S 21 p = gA T 24 p ∧ gA S 22 p = gA T 25 p) := fun p hp => by
    obtain ⟨t, c, -, -, a3, a4, a5, a6, -⟩ := h6 p hp
    exact ⟨a3.trans a4.symm, a5.trans a6.symm⟩
  obtain ⟨c1, c2⟩ := pairC_l S nR (nI t) (nI c) h2 h3 nR 0 100 (by omega) (by omega) (by omega)
  obtain ⟨m1, m2⟩ := pairM_l T nR (nI t) (nI c) h2 h4 nR 0 100 (by omega) (by omega) (by omega)
  by_cases hx : ∃ p, p < nR ∧ (gA T 24 p = nI t ∧ gA T 25 p = nI c)
  · obtain ⟨p, ⟨p1, p2⟩, p3⟩ := pk_least (fun p => p < nR ∧ (gA T 24 p = nI t ∧ gA T 25 p = nI c)) hx
    have p4 : ∀ d, d < p → ¬ (gA T 24 d = nI t ∧ gA T 25 d = nI c) := fun d hd e => p3 d hd ⟨by omega, e⟩
    refine ⟨nI p, S, T, nR, ?_, ?_, h0, Nat.le_refl _, stp_rf S T nK nR, Or.inr ⟨p, p1, rfl⟩⟩
    · unfold m_CPairs_numberOf
      rw [show L_CPairs_numberOf_2 S (nI t) (nI c) 100 0 = _ from c2 p (Nat.zero_le _) p1 (by rw [(hm p p1).1, (hm p p1).2]; exact p2) (fun d _ hd => by rw [(hm d (by omega)).1, (hm d (by omega)).2]; exact p4 d hd)]
      rfl
    · unfold tailM
      rw [show L_MX_pairOf_15 T (nI t) (nI c) 100 0 = _ from m2 p (Nat.zero_le _) p1 p2 (fun d _ hd => p4 d hd)]
      rfl
  · have hno : ∀ p, p < nR → ¬ (gA T 24 p = nI t ∧ gA T 25 p = nI c) := fun p hp e => hx ⟨p, hp, e⟩
    have eC := c1 (fun p _ hp => by rw [(hm p hp).1, (hm p hp).2]; exact hno p hp)
    by_cases h60 : nR = 60
    · refine ⟨-1, S, T, nR, ?_, ?_, h0, Nat.le_refl _, stp_rf S T nK nR, Or.inl rfl⟩
      · unfold m_CPairs_numberOf
        rw [show L_CPairs_numberOf_2 S (nI t) (nI c) 100 0 = _ from eC, Option.bind_some]
        show (if gI S 7 < 60 then _ else _) = _
        rw [h3, h60, if_neg (by decide)]
      · unfold tailM
        rw [show L_MX_pairOf_15 T (nI t) (nI c) 100 0 = _ from m1 (fun p _ hp => hno p hp), Option.bind_some]
        show (if gI T 15 = 60 then _ else _) = _
        rw [h4, h60, if_pos (show nI 60 = 60 from rfl)]
    · have hlt : nR < 60 := by omega
      obtain ⟨g', f1, f2⟩ := tail_new h0 ht hc hlt hno
      refine ⟨nI nR, sI (tB (tA (tA (tA S 21 (nI nR) (nI t)) 22 (nI nR) (nI c)) 23 (nI nR) 0) 2 (nI nR) 0) 7 (nI (nR + 1)), _, nR + 1, ?_, f1, ?_, by omega, ?_, Or.inr ⟨nR, by omega, rfl⟩⟩
      · unfold m_CPairs_numberOf
        rw [show L_CPairs_numberOf_2 S (nI t) (nI c) 100 0 = _ from eC, Option.bind_some]
        show (if gI S 7 < 60 then _ else _) = _
        rw [h3, if_pos (show nI nR < 60 from nI_lt (b := 60) hlt (by decide)), if_pos (inb_nI hlt (by decide)), nI_1]
      · have rw1 : RwT T (sI (pA (tA (tA (tA T 24 (nI nR) (nI t)) 25 (nI nR) (nI c)) 26 (nI nR) (b2 (wfT nS T t c))) 27 g') 15 (nI (nR + 1))) nK := ⟨fun k hk _ _ => by rw [gA_sI, gA_pA, if_neg (by omega), gA_tA, if_neg (by omega), gA_tA, if_neg (by omega), gA_tA, if_neg (by omega)], fun _ _ => rfl, fun _ _ => rfl⟩
        have hS : nS ≤ 16 := h1.1.1
        have cl := nI_clamp (show nR < 2 ^ 31 by omega)
        refine ⟨h1, ⟨by omega, rfl, rfl⟩, fun u hu => ?_, fun p hp => ?_, fun p hp => ?_⟩
        · exact rep_iff (h5 u hu) (fun b _ => (clo_st rw1.1 nS nE nN nT u b).symm)
        · have x21 : gA (sI (tB (tA (tA (tA S 21 (nI nR) (nI t)) 22 (nI nR) (nI c)) 23 (nI nR) 0) 2 (nI nR) 0) 7 (nI (nR + 1))) 21 p = if p = nR then nI t else gA S 21 p := by
            show upd (gA S 21) (nI nR).toNatClampNeg (nI t) p = _
            rw [cl, upd_e]
          have x22 : gA (sI (tB (tA (tA (tA S 21 (nI nR) (nI t)) 22 (nI nR) (nI c)) 23 (nI nR) 0) 2 (nI nR) 0) 7 (nI (nR + 1))) 22 p = if p = nR then nI c else gA S 22 p := by
            show upd (gA S 22) (nI nR).toNatClampNeg (nI c) p = _
            rw [cl, upd_e]
          have x23 : gA (sI (tB (tA (tA (tA S 21 (nI nR) (nI t)) 22 (nI nR) (nI c)) 23 (nI nR) 0) 2 (nI nR) 0) 7 (nI (nR + 1))) 23 p = if p = nR then 0 else gA S 23 p := by
            show upd (gA S 23) (nI nR).toNatClampNeg 0 p = _
            rw [cl, upd_e]
          have y24 : gA (sI (pA (tA (tA (tA T 24 (nI nR) (nI t)) 25 (nI nR) (nI c)) 26 (nI nR) (b2 (wfT nS T t c))) 27 g') 15 (nI (nR + 1))) 24 p = if p = nR then nI t else gA T 24 p := by
            show upd (gA T 24) (nI nR).toNatClampNeg (nI t) p = _
            rw [cl, upd_e]
          have y25 : gA (sI (pA (tA (tA (tA T 24 (nI nR) (nI t)) 25 (nI nR) (nI c)) 26 (nI nR) (b2 (wfT nS T t c))) 27 g') 15 (nI (nR + 1))) 25 p = if p = nR then nI c else gA T 25 p := by
            show upd (gA T 25) (nI nR).toNatClampNeg (nI c) p = _
            rw [cl, upd_e]
          have y26 : gA (sI (pA (tA (tA (tA T 24 (nI nR) (nI t)) 25 (nI nR) (nI c)) 26 (nI nR) (b2 (wfT nS T t c))) 27 g') 15 (nI (nR + 1))) 26 p = if p = nR then b2 (wfT nS T t c) else gA T 26 p := by
            show upd (gA T 26) (nI nR).toNatClampNeg (b2 (wfT nS T t c)) p = _
            rw [cl, upd_e]
          unfold PrX
          rw [x21, x22, x23, y24, y25, y26]
          by_cases e : p = nR
          · rw [if_pos e, if_pos e, if_pos e, if_pos e, if_pos e, if_pos e]
            exact ⟨t, c, ht, hc, rfl, rfl, rfl, rfl, rfl, b2_iff (wf_rw hS rw1 hc).symm⟩
          · rw [if_neg e, if_neg e, if_neg e, if_neg e, if_neg e, if_neg e]
            obtain ⟨t', c', a1, a2, a3, a4, a5, a6, a7, a8⟩ := h6 p (by omega)
            exact ⟨t', c', a1, a2, a3, a4, a5, a6, a7, a8.trans (b2_iff (wf_rw hS rw1 a2).symm)⟩
        · show RepL (vp_updL (gB S 2) (nI nR).toNatClampNeg 0 p) (fun q => q < nR + 1 ∧ ¬ g' (60 * p + q) = 0)
          rw [cl, updL_e]
          by_cases e : p = nR
          · rw [if_pos e]
            refine repL_iff repL_0 (fun q hq => ⟨False.elim, fun ⟨o1, o2⟩ => o2 ?_⟩)
            rw [f2 p q (by omega) (by omega), if_pos (by omega)]
          · rw [if_neg e]
            refine repL_iff (h7 p (by omega)) (fun q hq => ?_)
            by_cases e1 : q < nR
            · rw [f2 p q (by omega) (by omega), if_neg (by omega)]
              exact ⟨fun o => ⟨by omega, o.2⟩, fun o => ⟨e1, o.2⟩⟩
            · refine ⟨fun o => absurd o.1 e1, fun ⟨o1, o2⟩ => absurd ?_ o2⟩
              rw [f2 p q (by omega) (by omega), if_pos (by omega)]
      · have cl := nI_clamp (show nR < 2 ^ 31 by omega)
        refine ⟨fun p hp => ⟨?_, ?_⟩, fun _ _ => rfl, fun k hk _ _ => by rw [gA_sI, gA_pA, if_neg (by omega), gA_tA, if_neg (by omega), gA_tA, if_neg (by omega), gA_tA, if_neg (by omega)]⟩
        · show upd (gA S 21) (nI nR).toNatClampNeg (nI t) p = _
          rw [cl, upd_e, if_neg (by omega)]
        · show upd (gA S 22) (nI nR).toNatClampNeg (nI c) p = _
          rw [cl, upd_e, if_neg (by omega)]
