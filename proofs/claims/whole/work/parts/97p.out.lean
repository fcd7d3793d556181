/-! leaving PAIRS out -/
def zcx (g : Nat → Int32) : Nat → Nat
  | 0 => 0
  | n + 1 => zcx g n + if g n = 0 then 1 else 0
theorem zc_n (g : Nat → Int32) : ∀ n, zcx g n ≤ n := by
  intro n
  induction n with
  | zero => exact Nat.le_refl _
  | succ n ih =>
    show zcx g n + (if g n = 0 then 1 else 0) ≤ n + 1
    by_cases e : g n = 0
    · rw [if_pos e]; omega
    · rw [if_neg e]; omega
theorem zc_le {g h : Nat → Int32} : ∀ n, (∀ p, p < n → h p = 0 → g p = 0) → zcx h n ≤ zcx g n := by
  intro n
  induction n with
  | zero => intro _; exact Nat.le_refl _
  | succ n ih =>
    intro k
    have i := ih (fun p hp => k p (by omega))
    have j := k n (by omega)
    show zcx h n + (if h n = 0 then 1 else 0) ≤ zcx g n + (if g n = 0 then 1 else 0)
    by_cases e : h n = 0
    · rw [if_pos e, if_pos (j e)]; omega
    · rw [if_neg e]; omega
theorem zc_lt {g h : Nat → Int32} : ∀ n, (∀ p, p < n → h p = 0 → g p = 0) → (∃ p, p < n ∧ g p = 0 ∧ ¬ h p = 0) → zcx h n < zcx g n := by
  intro n
  induction n with
  | zero => exact fun _ ⟨p, hp, _⟩ => absurd hp (by omega)
  | succ n ih =>
    intro k ⟨p, hp, e1, e2⟩
    have j := k n (by omega)
    show zcx h n + (if h n = 0 then 1 else 0) < zcx g n + (if g n = 0 then 1 else 0)
    by_cases e : p = n
    · subst e
      have i := zc_le (g := g) (h := h) p (fun q hq => k q (by omega))
      rw [if_neg e2, if_pos e1]; omega
    · have i := ih (fun q hq => k q (by omega)) ⟨p, by omega, e1, e2⟩
      by_cases f : h n = 0
      · rw [if_pos f, if_pos (j f)]; omega
      · rw [if_neg f]; omega
theorem zc_0 {g : Nat → Int32} : ∀ n, zcx g n = 0 → ∀ p, p < n → ¬ g p = 0 := by
  intro n
  induction n with
  | zero => exact fun _ p hp => absurd hp (by omega)
  | succ n ih =>
    intro e p hp
    have e' : zcx g n + (if g n = 0 then 1 else 0) = 0 := e
    by_cases f : g n = 0
    · rw [if_pos f] at e'; omega
    · rw [if_neg f] at e'
      by_cases c : p = n
      · rw [c]; exact f
      · exact ih (by omega) p (by omega)
/-- the least set that what is out, and the leads to it, make -/
def LCx (o : Nat → Int32) (L : Nat → Nat → Prop) (n p : Nat) : Prop := ∀ X : Nat → Prop, (∀ q, q < n → ¬ o q = 0 → X q) → (∀ p q, p < n → q < n → L p q → X q → X p) → X p
def KLx (o : Nat → Int32) (L : Nat → Nat → Prop) (n : Nat) (g : Nat → Int32) : Prop := ∀ p, p < n → g p = o p ∨ (o p = 0 ∧ g p = 2 ∧ LCx o L n p)
def Clx (L : Nat → Nat → Prop) (n : Nat) (g : Nat → Int32) : Prop := ∀ p q, p < n → q < n → L p q → ¬ g q = 0 → ¬ g p = 0
theorem two0 : ¬ (2 : Int32) = 0 := by decide
theorem kl_rf (o : Nat → Int32) (L : Nat → Nat → Prop) (n : Nat) : KLx o L n o := fun _ _ => Or.inl rfl
theorem kl_lc {o g : Nat → Int32} {L : Nat → Nat → Prop} {n q : Nat} (h : KLx o L n g) (hq : q < n) (e : ¬ g q = 0) : LCx o L n q := by
  rcases h q hq with c | ⟨_, _, c⟩
  · exact fun X h1 _ => h1 q hq (by rw [← c]; exact e)
  · exact c
theorem kl_up {o g : Nat → Int32} {L : Nat → Nat → Prop} {n p q : Nat} (h : KLx o L n g) (hp : p < n) (hq : q < n) (l : L p q) (e : ¬ g q = 0) (z : g p = 0) : o p = 0 ∧ LCx o L n p := by
  refine ⟨?_, fun X h1 h2 => h2 p q hp hq l (kl_lc h hq e X h1 h2)⟩
  rcases h p hp with c | ⟨c, _, _⟩
  · rw [← c]; exact z
  · exact c
theorem kl_fin {o g : Nat → Int32} {L : Nat → Nat → Prop} {n : Nat} (h : KLx o L n g) (c : Clx L n g) : ∀ p, p < n → (¬ o p = 0 → g p = o p) ∧ (o p = 0 → LCx o L n p → g p = 2) ∧ (o p = 0 → ¬ LCx o L n p → g p = 0) := by
  intro p hp
  have hl : LCx o L n p → ¬ g p = 0 := fun l => l (fun q => ¬ g q = 0) (fun q hq e => by
    rcases h q hq with k | ⟨k, _, _⟩
    · rw [k]; exact e
    · exact absurd k e) c
  rcases h p hp with k | ⟨k1, k2, k3⟩
  · exact ⟨fun _ => k, fun e l => absurd (k.trans e) (hl l), fun e _ => k.trans e⟩
  · exact ⟨fun e => absurd k1 e, fun _ _ => k2, fun _ l => absurd k3 l⟩
theorem kl_eq {o g g' : Nat → Int32} {L : Nat → Nat → Prop} {n : Nat} (h : KLx o L n g) (c : Clx L n g) (h' : KLx o L n g') (c' : Clx L n g') {p : Nat} (hp : p < n) : g p = g' p := by
  obtain ⟨a1, a2, a3⟩ := kl_fin h c p hp
  obtain ⟨b1, b2, b3⟩ := kl_fin h' c' p hp
  by_cases e : o p = 0
  · by_cases l : LCx o L n p
    · rw [a2 e l, b2 e l]
    · rw [a3 e l, b3 e l]
  · rw [a1 e, b1 e]
/-! the class: by WANTS -/
theorem wants_l {S : StC} {T : StM} {nS nP nK nQ nT nE nN nR : Nat} (h : Inv S T nS nP nK nQ nT nE nN nR) : ∀ (m i n : Nat) (g : Nat → Int32), m = nR - i → i ≤ nR → m < n → (∀ p, i ≤ p → p < nR → g p = 0) → ∃ g', L_CX_leaveOutByWants_2 n (pA S 23 g) (nI i) = some (pA S 23 g') ∧ (∀ p, p < i → g' p = g p) ∧ ∀ p, i ≤ p → p < nR → g' p = gA T 26 p := by
  obtain ⟨h1, ⟨h2, h3, h4⟩, -, h6, -⟩ := h
  have hK : nK ≤ 60 := h1.2.2.1.1
  have hT : nT ≤ 16 := h1.2.2.2.2.1.1
  have hQ : nQ ≤ 40 := h1.2.2.2.1.1
  have r6 : RTar nT nQ (gA S 7) (gA T 17) := by
    obtain ⟨-, -, -, -, -, -, -, -, -, -, -, -, r6, -⟩ := h1
    exact r6
  intro m
  induction m with
  | zero =>
    intro i n g hm hi hn hz
    obtain ⟨n, rfl⟩ : ∃ k, n = k + 1 := ⟨n - 1, by omega⟩
    refine ⟨g, ?_, fun _ _ => rfl, fun p a b => absurd b (by omega)⟩
    rw [L_CX_leaveOutByWants_2, show gI (pA S 23 g) 7 = nI nR from h3, if_pos (nI_le (by omega) (by omega))]
  | succ m ih =>
    intro i n g hm hi hn hz
    obtain ⟨n, rfl⟩ : ∃ k, n = k + 1 := ⟨n - 1, by omega⟩
    obtain ⟨t, c, a1, a2, a3, a4, a5, a6, a7, a8⟩ := h6 i (by omega)
    have hw : (gA S 7 t = -1 ∧ ¬ wfT nS T t c) ∨ ∃ q : Nat, q < 40 ∧ gA S 7 t = nI q ∧ (wfT nS T t c ↔ ¬ hldT nS T q c) := by
      obtain ⟨w1, w2⟩ := r6 t a1
      rcases w2 with w2 | ⟨q, hq, w2⟩
      · exact Or.inl ⟨w1.trans w2, fun ⟨q, hq, e, _⟩ => nI_ne_m1 (show q < 2 ^ 31 by omega) (e.symm.trans w2)⟩
      · refine Or.inr ⟨q, by omega, w1.trans w2, fun ⟨q', hq', e, k⟩ => ?_, fun k => ⟨q, by omega, w2, k⟩⟩
        rw [nI_inj (show q < 2 ^ 31 by omega) (show q' < 2 ^ 31 by omega) (w2.symm.trans e)]
        exact k
    have step : L_CX_leaveOutByWants_2 (n + 1) (pA S 23 g) (nI i) = if b2 (wfT nS T t c) = 0 then L_CX_leaveOutByWants_2 n (pA S 23 g) (nI (i + 1)) else L_CX_leaveOutByWants_2 n (pA S 23 (upd g i 1)) (nI (i + 1)) := by
      rw [L_CX_leaveOutByWants_2, show gI (pA S 23 g) 7 = nI nR from h3, if_neg (nI_ge (by omega) (by omega)), if_pos (inb_nI (show i < 60 by omega) (by decide)), nI_clamp (show i < 2 ^ 31 by omega), show gA (pA S 23 g) 21 i = nI t from a3, show gA (pA S 23 g) 22 i = nI c from a5, if_pos (inb_nI (show t < 16 by omega) (by decide)), if_pos (inb_nI (show c < 60 by omega) (by decide)), nI_clamp (show t < 2 ^ 31 by omega), nI_clamp (show c < 2 ^ 31 by omega), show gA (pA S 23 g) 7 t = gA S 7 t from rfl, show gB (pA S 23 g) 0 c = gB S 0 c from rfl, nI_1, tA_pA, nI_clamp (show i < 2 ^ 31 by omega)]
      rcases hw with ⟨e1, e2⟩ | ⟨q, hq, e1, e2⟩
      · rw [if_pos e1, if_pos (b2_0.mpr e2)]
      · have ne : ¬ gA S 7 t = -1 := by rw [e1]; exact nI_ne_m1 (by omega)
        have e3 : m_CX_isMet (pA S 23 g) (nI q) (gB S 0 c) = some (b2 (hldT nS T q c)) := metC (S := pA S 23 g) (nS := nS) (nP := nP) (nK := nK) (nQ := nQ) (nT := nT) (nE := nE) (nN := nN) h1 hq (row_of h1 a2)
        rw [if_neg ne, e1, e3, Option.bind_some]
        by_cases k : hldT nS T q c
        · rw [if_neg (fun o => b2_0.mp o k), if_pos (b2_0.mpr (fun o => e2.mp o k))]
        · rw [if_pos (b2_0.mpr k), if_neg (fun o => b2_0.mp o (e2.mpr k))]
    rw [step]
    by_cases w : wfT nS T t c
    · obtain ⟨g', q1, q2, q3⟩ := ih (i + 1) n (upd g i 1) (by omega) (by omega) (by omega) (fun p hp hp' => by rw [upd_e, if_neg (by omega)]; exact hz p (by omega) hp')
      rw [if_neg (fun o => b2_0.mp o w)]
      refine ⟨g', q1, fun p hp => by rw [q2 p (by omega), upd_e, if_neg (by omega)], fun p hp hp' => ?_⟩
      by_cases e : p = i
      · rw [e, q2 i (by omega), upd_e, if_pos rfl, a8, b2_t w]
      · exact q3 p (by omega) hp'
    · obtain ⟨g', q1, q2, q3⟩ := ih (i + 1) n g (by omega) (by omega) (by omega) (fun p hp hp' => hz p (by omega) hp')
      rw [if_pos (b2_0.mpr w)]
      refine ⟨g', q1, fun p hp => q2 p (by omega), fun p hp hp' => ?_⟩
      by_cases e : p = i
      · rw [e, q2 i (by omega), hz i (by omega) (by omega), a8, b2_f w]
      · exact q3 p (by omega) hp'
theorem wantsC {S : StC} {T : StM} {nS nP nK nQ nT nE nN nR : Nat} (h : Inv S T nS nP nK nQ nT nE nN nR) : ∃ g, m_CX_leaveOutByWants S = some (pA S 23 g) ∧ ∀ p, p < nR → g p = gA T 26 p := by
  have hR : nR ≤ 60 := h.2.1.1
  obtain ⟨g, q1, q2, q3⟩ := wants_l h nR 0 100 (gA S 23) (by omega) (by omega) (by omega) (fun p _ hp => by
    obtain ⟨t, c, a1, a2, a3, a4, a5, a6, a7, a8⟩ := h.2.2.2.1 p hp
    exact a7)
  rw [pA_self] at q1
  refine ⟨g, ?_, fun p hp => q3 p (Nat.zero_le _) hp⟩
  unfold m_CX_leaveOutByWants
  rw [show L_CX_leaveOutByWants_2 100 S 0 = _ from q1, Option.bind_some]
/-! the class: by NEEDS -/
theorem allOut_l {S : StC} {nR : Nat} (hR : nR ≤ 60) (e : gI S 7 = nI nR) (g : Nat → Int32) : ∀ (m i n : Nat) (x : Int64) (P : Nat → Prop), m = nR - i → i ≤ nR → m < n → RepL x P → ∃ y, L_CPairs_allLeftOut_4 (pA S 23 g) n x (nI i) = some y ∧ RepL y (fun p => P p ∨ (i ≤ p ∧ p < nR ∧ ¬ g p = 0)) := by
  intro m
  induction m with
  | zero =>
    intro i n x P hm hi hn hx
    obtain ⟨n, rfl⟩ : ∃ k, n = k + 1 := ⟨n - 1, by omega⟩
    refine ⟨x, ?_, repL_iff hx (fun p _ => ⟨Or.inl, fun o => o.elim id (fun o => absurd o.2.1 (by omega))⟩)⟩
    rw [L_CPairs_allLeftOut_4, show gI (pA S 23 g) 7 = nI nR from e, if_pos (nI_le (by omega) (by omega))]
  | succ m ih =>
    intro i n x P hm hi hn hx
    obtain ⟨n, rfl⟩ : ∃ k, n = k + 1 := ⟨n - 1, by omega⟩
    rw [L_CPairs_allLeftOut_4, show gI (pA S 23 g) 7 = nI nR from e, if_neg (nI_ge (by omega) (by omega)), if_pos (inb_nI (show i < 60 by omega) (by decide)), nI_clamp (show i < 2 ^ 31 by omega), gA_ps, nI_1]
    by_cases c : g i = 0
    · rw [if_pos c]
      obtain ⟨y, q1, q2⟩ := ih (i + 1) n x P (by omega) (by omega) (by omega) hx
      refine ⟨y, q1, repL_iff q2 (fun p _ => ⟨fun o => o.elim Or.inl (fun o => Or.inr ⟨by omega, o.2⟩), fun o => o.elim Or.inl (fun o => Or.inr ⟨?_, o.2⟩)⟩)⟩
      apply Classical.byContradiction
      intro k
      exact o.2.2 (by rw [show p = i by omega]; exact c)
    · rw [if_neg c]
      obtain ⟨y, q1, q2⟩ := ih (i + 1) n _ _ (by omega) (by omega) (by omega) (repL_or1 hx (show i < 64 by omega))
      refine ⟨y, q1, repL_iff q2 (fun p _ => ⟨fun o => ?_, fun o => ?_⟩)⟩
      · rcases o with (o | o) | o
        · exact Or.inl o
        · exact Or.inr ⟨by omega, by omega, by rw [← o]; exact c⟩
        · exact Or.inr ⟨by omega, o.2⟩
      · rcases o with o | o
        · exact Or.inl (Or.inl o)
        · by_cases k : i = p
          · exact Or.inl (Or.inr k)
          · exact Or.inr ⟨by omega, o.2⟩
theorem allOut {S : StC} {nR : Nat} (hR : nR ≤ 60) (e : gI S 7 = nI nR) (g : Nat → Int32) : ∃ y, m_CPairs_allLeftOut (pA S 23 g) = some y ∧ RepL y (fun p => p < nR ∧ ¬ g p = 0) := by
  obtain ⟨y, q1, q2⟩ := allOut_l hR e g nR 0 100 0 _ (by omega) (by omega) (by omega) repL_0
  refine ⟨y, ?_, repL_iff q2 (fun p _ => ⟨fun o => o.elim False.elim (fun o => o.2), fun o => Or.inr ⟨Nat.zero_le _, o⟩⟩)⟩
  unfold m_CPairs_allLeftOut
  rw [show L_CPairs_allLeftOut_4 (pA S 23 g) 100 0 0 = _ from q1, Option.bind_some]
theorem needs_in {S : StC} {nR : Nat} {L : Nat → Nat → Prop} (hR : nR ≤ 60) (e : gI S 7 = nI nR) (hL : ∀ p, p < nR → RepL (gB S 2 p) (fun q => q < nR ∧ L p q)) (x1 : Int32) {x : Int64} {P : Nat → Prop} (hx : RepL x P) : ∀ (m i n : Nat) (g : Nat → Int32), m = nR - i → i ≤ nR → m < n → ∃ g', L_CPairs_leaveOutByNeeds_16 x1 x n (pA S 23 g) (nI i) = some (pA S 23 g') ∧ (∀ p, p < i → g' p = g p) ∧ ∀ p, i ≤ p → p < nR → ((g p = 0 ∧ ∃ q, q < nR ∧ L p q ∧ P q) ∧ g' p = 2) ∨ (¬ (g p = 0 ∧ ∃ q, q < nR ∧ L p q ∧ P q) ∧ g' p = g p) := by
  intro m
  induction m with
  | zero =>
    intro i n g hm hi hn
    obtain ⟨n, rfl⟩ : ∃ k, n = k + 1 := ⟨n - 1, by omega⟩
    refine ⟨g, ?_, fun _ _ => rfl, fun p a b => absurd b (by omega)⟩
    rw [L_CPairs_leaveOutByNeeds_16, show gI (pA S 23 g) 7 = nI nR from e, if_pos (nI_le (by omega) (by omega))]
  | succ m ih =>
    intro i n g hm hi hn
    obtain ⟨n, rfl⟩ : ∃ k, n = k + 1 := ⟨n - 1, by omega⟩
    have o1 : m = nR - (i + 1) := by omega
    have o2 : i + 1 ≤ nR := by omega
    have o3 : m < n := by omega
    have mt := repL_meet (hL i (by omega)) hx
    have me : (gB S 2 i &&& x) = 0 ↔ ¬ ∃ q, q < nR ∧ L i q ∧ P q := mt.trans ⟨fun o ⟨q, k1, k2, k3⟩ => o q (by omega) ⟨⟨k1, k2⟩, k3⟩, fun o q _ k => o ⟨q, k.1.1, k.1.2, k.2⟩⟩
    have step : (g i = 0 ∧ (∃ q, q < nR ∧ L i q ∧ P q) → L_CPairs_leaveOutByNeeds_16 x1 x (n + 1) (pA S 23 g) (nI i) = L_CPairs_leaveOutByNeeds_16 x1 x n (pA S 23 (upd g i 2)) (nI (i + 1))) ∧ (¬ (g i = 0 ∧ ∃ q, q < nR ∧ L i q ∧ P q) → L_CPairs_leaveOutByNeeds_16 x1 x (n + 1) (pA S 23 g) (nI i) = L_CPairs_leaveOutByNeeds_16 x1 x n (pA S 23 g) (nI (i + 1))) := by
      rw [L_CPairs_leaveOutByNeeds_16, show gI (pA S 23 g) 7 = nI nR from e, if_neg (nI_ge (by omega) (by omega)), if_pos (inb_nI (show i < 60 by omega) (by decide)), tA_pA, nI_clamp (show i < 2 ^ 31 by omega), gA_ps, show gB (pA S 23 g) 2 i = gB S 2 i from rfl, nI_1]
      refine ⟨fun ⟨c1, c2⟩ => ?_, fun c => ?_⟩
      · rw [if_pos c1, if_neg (fun o => me.mp ((lg_cmp_eq _ _).mp o) c2)]
      · by_cases c1 : g i = 0
        · rw [if_pos c1, if_pos ((lg_cmp_eq _ _).mpr (me.mpr (fun o => c ⟨c1, o⟩)))]
        · rw [if_neg c1]
    by_cases c : g i = 0 ∧ ∃ q, q < nR ∧ L i q ∧ P q
    · rw [step.1 c]
      obtain ⟨g', q1, q2, q3⟩ := ih (i + 1) n (upd g i 2) o1 o2 o3
      refine ⟨g', q1, fun p hp => by rw [q2 p (Nat.lt_succ_of_lt hp), upd_e, if_neg (Nat.ne_of_lt hp)], fun p hp hp' => ?_⟩
      by_cases k : p = i
      · rw [k]
        exact Or.inl ⟨c, by rw [q2 i (Nat.lt_succ_self i), upd_e, if_pos rfl]⟩
      · have := q3 p (Nat.lt_of_le_of_ne hp (fun e => k e.symm)) hp'
        rw [upd_e, if_neg k] at this
        exact this
    · rw [step.2 c]
      obtain ⟨g', q1, q2, q3⟩ := ih (i + 1) n g o1 o2 o3
      refine ⟨g', q1, fun p hp => q2 p (Nat.lt_succ_of_lt hp), fun p hp hp' => ?_⟩
      by_cases k : p = i
      · rw [k]
        exact Or.inr ⟨c, q2 i (Nat.lt_succ_self i)⟩
      · exact q3 p (Nat.lt_of_le_of_ne hp (fun e => k e.symm)) hp'
theorem needs_out {S : StC} {nR : Nat} {L : Nat → Nat → Prop} {o : Nat → Int32} (hR : nR ≤ 60) (e : gI S 7 = nI nR) (hL : ∀ p, p < nR → RepL (gB S 2 p) (fun q => q < nR ∧ L p q)) : ∀ (m i n : Nat) (g : Nat → Int32), m = 60 - i → i ≤ 60 → m < n → KLx o L nR g → zcx g nR + i ≤ 60 → ∃ g', (L_CPairs_leaveOutByNeeds_2 n (pA S 23 g) (nI i) = some (.inl (pA S 23 g')) ∨ L_CPairs_leaveOutByNeeds_2 n (pA S 23 g) (nI i) = some (.inr (pA S 23 g'))) ∧ KLx o L nR g' ∧ Clx L nR g' := by
  intro m
  induction m with
  | zero =>
    intro i n g hm hi hn hk hz
    obtain ⟨n, rfl⟩ : ∃ k, n = k + 1 := ⟨n - 1, by omega⟩
    have l8 : (60 : Int32) ≤ nI i := nI_le (a := 60) (by omega) (by omega)
    refine ⟨g, Or.inl (by rw [L_CPairs_leaveOutByNeeds_2, if_pos l8]), hk, fun p q hp _ _ _ => zc_0 nR (by omega) p hp⟩
  | succ m ih =>
    intro i n g hm hi hn hk hz
    obtain ⟨n, rfl⟩ : ∃ k, n = k + 1 := ⟨n - 1, by omega⟩
    have l8 : ¬ (60 : Int32) ≤ nI i := nI_ge (b := 60) (by omega) (by decide)
    obtain ⟨x, x1, x2⟩ := allOut hR e g
    obtain ⟨g', q1, -, q3⟩ := needs_in hR e hL (nI i) x2 nR 0 100 g (by omega) (by omega) (by omega)
    obtain ⟨y, y1, y2⟩ := allOut hR e g'
    have q4 : ∀ p, p < nR → ((g p = 0 ∧ ∃ q, q < nR ∧ L p q ∧ (q < nR ∧ ¬ g q = 0)) ∧ g' p = 2) ∨ (¬ (g p = 0 ∧ ∃ q, q < nR ∧ L p q ∧ (q < nR ∧ ¬ g q = 0)) ∧ g' p = g p) := fun p hp => q3 p (Nat.zero_le _) hp
    have mono : ∀ p, p < nR → g' p = 0 → g p = 0 := fun p hp z => by
      rcases q4 p hp with ⟨_, k⟩ | ⟨_, k⟩
      · exact absurd (k.symm.trans z) two0
      · exact k.symm.trans z
    have hk' : KLx o L nR g' := fun p hp => by
      rcases q4 p hp with ⟨⟨k1, q, k2, k3, k4, k5⟩, k⟩ | ⟨_, k⟩
      · obtain ⟨u1, u2⟩ := kl_up hk hp k2 k3 k5 k1
        exact Or.inr ⟨u1, k, u2⟩
      · rw [k]; exact hk p hp
    have step : L_CPairs_leaveOutByNeeds_2 (n + 1) (pA S 23 g) (nI i) = if lg_cmp y x = 0 then some (.inr (pA S 23 g')) else L_CPairs_leaveOutByNeeds_2 n (pA S 23 g') (nI (i + 1)) := by
      rw [L_CPairs_leaveOutByNeeds_2, if_neg l8, x1, Option.bind_some, show L_CPairs_leaveOutByNeeds_16 (nI i) x 100 (pA S 23 g) 0 = _ from q1, Option.bind_some, y1, Option.bind_some, nI_1]
    rw [step]
    by_cases c : y = x
    · rw [if_pos ((lg_cmp_eq _ _).mpr c)]
      have same := (repL_ext y2 x2).mp c
      refine ⟨g', Or.inr rfl, hk', fun p q hp hq l k z => ?_⟩
      have k' : ¬ g q = 0 := ((same q (by omega)).mp ⟨hq, k⟩).2
      rcases q4 p hp with ⟨_, w⟩ | ⟨w, w'⟩
      · exact two0 (w.symm.trans z)
      · exact w ⟨w'.symm.trans z, q, hq, l, hq, k'⟩
    · rw [if_neg (fun o => c ((lg_cmp_eq _ _).mp o))]
      have chg : ∃ p, p < nR ∧ g p = 0 ∧ ¬ g' p = 0 := by
        apply Classical.byContradiction
        intro no
        apply c
        refine (repL_ext y2 x2).mpr (fun p _ => ⟨fun ⟨k1, k2⟩ => ⟨k1, fun z => no ⟨p, k1, z, k2⟩⟩, fun ⟨k1, k2⟩ => ⟨k1, fun z => k2 (mono p k1 z)⟩⟩)
      have lt := zc_lt nR mono chg
      exact ih (i + 1) n g' (by omega) (by omega) (by omega) hk' (by omega)
theorem needsC {S : StC} {nR : Nat} {L : Nat → Nat → Prop} {o : Nat → Int32} (hR : nR ≤ 60) (e : gI S 7 = nI nR) (hL : ∀ p, p < nR → RepL (gB S 2 p) (fun q => q < nR ∧ L p q)) {g : Nat → Int32} (hk : KLx o L nR g) : ∃ g', m_CPairs_leaveOutByNeeds (pA S 23 g) = some (pA S 23 g') ∧ KLx o L nR g' ∧ Clx L nR g' := by
  have := zc_n g nR
  obtain ⟨g', q1, q2, q3⟩ := needs_out hR e hL 60 0 100 g (by omega) (by omega) (by omega) hk (by omega)
  refine ⟨g', ?_, q2, q3⟩
  unfold m_CPairs_leaveOutByNeeds
  rcases q1 with q1 | q1
  · rw [show L_CPairs_leaveOutByNeeds_2 100 (pA S 23 g) 0 = _ from q1]; rfl
  · rw [show L_CPairs_leaveOutByNeeds_2 100 (pA S 23 g) 0 = _ from q1]; rfl
/-! the reference -/
def Chx (n : Nat) (g g' : Nat → Int32) : Prop := ∃ r, r < n ∧ g r = 0 ∧ ¬ g' r = 0
def V3x (n : Nat) (g : Nat → Int32) : Prop := ∀ p, p < n → g p = 0 ∨ g p = 1 ∨ g p = 2
theorem kl_v3 {o g : Nat → Int32} {L : Nat → Nat → Prop} {n : Nat} (h : KLx o L n g) (ho : ∀ p, p < n → o p = 0 ∨ o p = 1) : V3x n g := fun p hp => by
  rcases h p hp with k | ⟨_, k, _⟩
  · rw [k]; exact (ho p hp).elim Or.inl (fun o => Or.inr (Or.inl o))
  · exact Or.inr (Or.inr k)
theorem v3_le {n p : Nat} {g : Nat → Int32} (h : V3x n g) (hp : p < n) : g p ≤ 0 ↔ g p = 0 := by
  rcases h p hp with k | k | k <;> rw [k] <;> decide
theorem kl_upd {o g : Nat → Int32} {L : Nat → Nat → Prop} {n p : Nat} (h : KLx o L n g) (u1 : o p = 0) (u2 : LCx o L n p) : KLx o L n (upd g p 2) := fun r hr => by
  rw [upd_e]
  by_cases c : r = p
  · rw [if_pos c, c]; exact Or.inr ⟨u1, rfl, u2⟩
  · rw [if_neg c]; exact h r hr
theorem leave_20 {T : StM} {nR : Nat} {L : Nat → Nat → Prop} {o : Nat → Int32} (hR : nR ≤ 60) (e : gI T 15 = nI nR) (hL : ∀ p q, L p q ↔ ¬ gA T 27 (60 * p + q) = 0) (ho : ∀ p, p < nR → o p = 0 ∨ o p = 1) {p : Nat} (hp : p < nR) : ∀ (m i n : Nat) (g : Nat → Int32) (x : Int32), m = nR - i → i ≤ nR → m < n → KLx o L nR g → ∃ g' x', L_MX_leaveOut_20 (nI p) n (pA T 26 g) x (nI i) = some (pA T 26 g', x') ∧ KLx o L nR g' ∧ (∀ r, r < nR → g' r = 0 → g r = 0) ∧ ((g' = g ∧ x' = x ∧ ∀ q, i ≤ q → q < nR → L p q → ¬ g q = 0 → ¬ g p = 0) ∨ (x' = 1 ∧ Chx nR g g')) := by
  intro m
  induction m with
  | zero =>
    intro i n g x hm hi hn hk
    obtain ⟨n, rfl⟩ : ∃ k, n = k + 1 := ⟨n - 1, by omega⟩
    refine ⟨g, x, ?_, hk, fun _ _ z => z, Or.inl ⟨rfl, rfl, fun q a b => absurd b (by omega)⟩⟩
    rw [L_MX_leaveOut_20, show gI (pA T 26 g) 15 = nI nR from e, if_pos (nI_le (by omega) (by omega))]
  | succ m ih =>
    intro i n g x hm hi hn hk
    obtain ⟨n, rfl⟩ : ∃ k, n = k + 1 := ⟨n - 1, by omega⟩
    have e27 : gA (pA T 26 g) 27 = gA T 27 := rfl
    have step : L_MX_leaveOut_20 (nI p) (n + 1) (pA T 26 g) x (nI i) = if g p = 0 then if gA T 27 (60 * p + i) = 0 then L_MX_leaveOut_20 (nI p) n (pA T 26 g) x (nI (i + 1)) else if g i ≤ 0 then L_MX_leaveOut_20 (nI p) n (pA T 26 g) x (nI (i + 1)) else L_MX_leaveOut_20 (nI p) n (pA T 26 (upd g p 2)) 1 (nI (i + 1)) else L_MX_leaveOut_20 (nI p) n (pA T 26 g) x (nI (i + 1)) := by
      rw [L_MX_leaveOut_20, show gI (pA T 26 g) 15 = nI nR from e, if_neg (nI_ge (by omega) (by omega)), if_pos (inb_nI (show p < 61 by omega) (by decide)), ixm60, if_pos (inb_nI (show 60 * p + i < 3721 by omega) (by decide)), if_pos (inb_nI (show i < 61 by omega) (by decide)), tA_pA, e27, gA_ps, nI_clamp (show p < 2 ^ 31 by omega), nI_clamp (show 60 * p + i < 2 ^ 31 by omega), nI_clamp (show i < 2 ^ 31 by omega), nI_1]
    have go : (L p i → ¬ g i = 0 → ¬ g p = 0) → ∃ g' x', L_MX_leaveOut_20 (nI p) n (pA T 26 g) x (nI (i + 1)) = some (pA T 26 g', x') ∧ KLx o L nR g' ∧ (∀ r, r < nR → g' r = 0 → g r = 0) ∧ ((g' = g ∧ x' = x ∧ ∀ q, i ≤ q → q < nR → L p q → ¬ g q = 0 → ¬ g p = 0) ∨ (x' = 1 ∧ Chx nR g g')) := fun v => by
      obtain ⟨g', x', q1, q2, q3, q4⟩ := ih (i + 1) n g x (by omega) (by omega) (by omega) hk
      refine ⟨g', x', q1, q2, q3, ?_⟩
      rcases q4 with ⟨k1, k2, k3⟩ | k
      · refine Or.inl ⟨k1, k2, fun q a b => ?_⟩
        by_cases c : q = i
        · rw [c]; exact v
        · exact k3 q (by omega) b
      · exact Or.inr k
    rw [step]
    by_cases c1 : g p = 0
    · rw [if_pos c1]
      by_cases c2 : gA T 27 (60 * p + i) = 0
      · rw [if_pos c2]
        exact go (fun l => absurd c2 ((hL p i).mp l))
      · rw [if_neg c2]
        have le := v3_le (kl_v3 hk ho) (show i < nR by omega)
        by_cases c3 : g i = 0
        · rw [if_pos (le.mpr c3)]
          exact go (fun _ k => absurd c3 k)
        · rw [if_neg (fun z => c3 (le.mp z))]
          obtain ⟨u1, u2⟩ := kl_up hk hp (show i < nR by omega) ((hL p i).mpr c2) c3 c1
          obtain ⟨g', x', q1, q2, q3, q4⟩ := ih (i + 1) n (upd g p 2) 1 (by omega) (by omega) (by omega) (kl_upd hk u1 u2)
          have q5 : ∀ r, r < nR → g' r = 0 → ¬ r = p ∧ g r = 0 := fun r hr z => by
            have := q3 r hr z
            rw [upd_e] at this
            by_cases k : r = p
            · rw [if_pos k] at this; exact absurd this two0
            · rw [if_neg k] at this; exact ⟨k, this⟩
          refine ⟨g', x', q1, q2, fun r hr z => (q5 r hr z).2, Or.inr ⟨?_, p, hp, c1, fun z => (q5 p hp z).1 rfl⟩⟩
          rcases q4 with ⟨_, k, _⟩ | ⟨k, _⟩
          · exact k
          · exact k
    · rw [if_neg c1]
      exact go (fun _ _ => c1)
theorem leave_10 {T : StM} {nR : Nat} {L : Nat → Nat → Prop} {o : Nat → Int32} (hR : nR ≤ 60) (e : gI T 15 = nI nR) (hL : ∀ p q, L p q ↔ ¬ gA T 27 (60 * p + q) = 0) (ho : ∀ p, p < nR → o p = 0 ∨ o p = 1) : ∀ (m i n : Nat) (g : Nat → Int32) (x : Int32), m = nR - i → i ≤ nR → m < n → KLx o L nR g → ∃ g' x', L_MX_leaveOut_10 n (pA T 26 g) x (nI i) = some (pA T 26 g', x') ∧ KLx o L nR g' ∧ (∀ r, r < nR → g' r = 0 → g r = 0) ∧ ((g' = g ∧ x' = x ∧ ∀ p, i ≤ p → p < nR → ∀ q, q < nR → L p q → ¬ g q = 0 → ¬ g p = 0) ∨ (x' = 1 ∧ Chx nR g g')) := by
  intro m
  induction m with
  | zero =>
    intro i n g x hm hi hn hk
    obtain ⟨n, rfl⟩ : ∃ k, n = k + 1 := ⟨n - 1, by omega⟩
    refine ⟨g, x, ?_, hk, fun _ _ z => z, Or.inl ⟨rfl, rfl, fun q a b => absurd b (by omega)⟩⟩
    rw [L_MX_leaveOut_10, show gI (pA T 26 g) 15 = nI nR from e, if_pos (nI_le (by omega) (by omega))]
  | succ m ih =>
    intro i n g x hm hi hn hk
    obtain ⟨n, rfl⟩ : ∃ k, n = k + 1 := ⟨n - 1, by omega⟩
    obtain ⟨g1, x1, p1, p2, p3, p4⟩ := leave_20 hR e hL ho (show i < nR by omega) nR 0 100 g x (by omega) (by omega) (by omega) hk
    obtain ⟨g', x', q1, q2, q3, q4⟩ := ih (i + 1) n g1 x1 (by omega) (by omega) (by omega) p2
    refine ⟨g', x', ?_, q2, fun r hr z => p3 r hr (q3 r hr z), ?_⟩
    · rw [L_MX_leaveOut_10, show gI (pA T 26 g) 15 = nI nR from e, if_neg (nI_ge (by omega) (by omega)), show L_MX_leaveOut_20 (nI i) 100 (pA T 26 g) x 0 = _ from p1, Option.bind_some, nI_1]
      exact q1
    · rcases p4 with ⟨k1, k2, k3⟩ | ⟨k1, r, k2, k3, k4⟩
      · subst k1
        subst k2
        rcases q4 with ⟨j1, j2, j3⟩ | j
        · refine Or.inl ⟨j1, j2, fun p a b => ?_⟩
          by_cases c : p = i
          · rw [c]; exact fun q hq => k3 q (Nat.zero_le _) hq
          · exact j3 p (by omega) b
        · exact Or.inr j
      · refine Or.inr ⟨?_, r, k2, k3, fun z => k4 (q3 r k2 z)⟩
        rcases q4 with ⟨_, j, _⟩ | ⟨j, _⟩
        · exact j.trans k1
        · exact j
theorem leave_2 {T : StM} {nR : Nat} {L : Nat → Nat → Prop} {o : Nat → Int32} (hR : nR ≤ 60) (e : gI T 15 = nI nR) (hL : ∀ p q, L p q ↔ ¬ gA T 27 (60 * p + q) = 0) (ho : ∀ p, p < nR → o p = 0 ∨ o p = 1) : ∀ (m n : Nat) (g : Nat → Int32), zcx g nR ≤ m → m + 1 < n → KLx o L nR g → ∃ g', L_MX_leaveOut_2 n (pA T 26 g) 1 = some (pA T 26 g') ∧ KLx o L nR g' ∧ Clx L nR g' := by
  intro m
  induction m with
  | zero =>
    intro n g hz hn hk
    obtain ⟨n, rfl⟩ : ∃ k, n = k + 1 + 1 := ⟨n - 2, by omega⟩
    obtain ⟨g', x', q1, q2, q3, q4⟩ := leave_10 hR e hL ho nR 0 100 g 0 (by omega) (by omega) (by omega) hk
    rcases q4 with ⟨j1, j2, j3⟩ | ⟨_, j⟩
    · subst j1
      subst j2
      refine ⟨g', ?_, q2, fun p q hp hq => j3 p (Nat.zero_le _) hp q hq⟩
      rw [L_MX_leaveOut_2, if_neg one0, show L_MX_leaveOut_10 100 (pA T 26 g') 0 0 = _ from q1, Option.bind_some, L_MX_leaveOut_2, if_pos rfl]
    · have := zc_lt nR q3 j
      omega
  | succ m ih =>
    intro n g hz hn hk
    obtain ⟨n, rfl⟩ : ∃ k, n = k + 1 + 1 := ⟨n - 2, by omega⟩
    obtain ⟨g', x', q1, q2, q3, q4⟩ := leave_10 hR e hL ho nR 0 100 g 0 (by omega) (by omega) (by omega) hk
    rcases q4 with ⟨j1, j2, j3⟩ | ⟨j1, j⟩
    · subst j1
      subst j2
      refine ⟨g', ?_, q2, fun p q hp hq => j3 p (Nat.zero_le _) hp q hq⟩
      rw [L_MX_leaveOut_2, if_neg one0, show L_MX_leaveOut_10 100 (pA T 26 g') 0 0 = _ from q1, Option.bind_some, L_MX_leaveOut_2, if_pos rfl]
    · have := zc_lt nR q3 j
      subst j1
      obtain ⟨g2, r1, r2, r3⟩ := ih (n + 1) g' (by omega) (by omega) q2
      refine ⟨g2, ?_, r2, r3⟩
      rw [L_MX_leaveOut_2, if_neg one0, show L_MX_leaveOut_10 100 (pA T 26 g) 0 0 = _ from q1, Option.bind_some]
      exact r1
theorem leaveM {T : StM} {nR : Nat} {L : Nat → Nat → Prop} {o : Nat → Int32} (hR : nR ≤ 60) (e : gI T 15 = nI nR) (hL : ∀ p q, L p q ↔ ¬ gA T 27 (60 * p + q) = 0) (ho : ∀ p, p < nR → o p = 0 ∨ o p = 1) (hk : KLx o L nR (gA T 26)) : ∃ g', m_MX_leaveOut T = some (pA T 26 g') ∧ KLx o L nR g' ∧ Clx L nR g' := by
  have := zc_n (gA T 26) nR
  obtain ⟨g', q1, q2, q3⟩ := leave_2 hR e hL ho 60 100 (gA T 26) (by omega) (by omega) hk
  rw [pA_self] at q1
  refine ⟨g', ?_, q2, q3⟩
  unfold m_MX_leaveOut
  rw [q1, Option.bind_some]
