/-- a boolean's word, of a proposition -/
noncomputable def b2 (P : Prop) : Int32 := @ite _ P (Classical.propDecidable P) 1 0
theorem b2_t {P : Prop} (h : P) : b2 P = 1 := @if_pos _ (Classical.propDecidable P) h _ _ _
theorem b2_f {P : Prop} (h : ¬ P) : b2 P = 0 := @if_neg _ (Classical.propDecidable P) h _ _ _
theorem b2_iff {P Q : Prop} (h : P ↔ Q) : b2 P = b2 Q := by rw [propext h]
theorem b2_isB (P : Prop) : isB (b2 P) = true := by
  by_cases h : P
  · rw [b2_t h]; rfl
  · rw [b2_f h]; rfl
theorem b2_0 {P : Prop} : b2 P = 0 ↔ ¬ P := by
  by_cases h : P
  · rw [b2_t h]; exact ⟨fun e => absurd e one0, fun e => absurd h e⟩
  · rw [b2_f h]; exact ⟨fun _ => h, fun _ => rfl⟩
theorem isUsed_in (T : StM) (q s k : Nat) (hs : s < 24) (hk : k ≤ 8) (ek : gA T 11 s = nI k) : ∀ (m j n : Nat) (P : Prop), m = k - j → j ≤ k → m < n → L_MX_isUsed_23 T (nI q) (nI s) n (b2 P) (nI (8 * s + j)) = some (b2 (P ∨ ∃ b, j ≤ b ∧ b < k ∧ gA T 12 (8 * s + b) = nI q)) := by
  intro m
  induction m with
  | zero =>
    intro j n P hm hj hn
    obtain ⟨n, rfl⟩ : ∃ k, n = k + 1 := ⟨n - 1, by omega⟩
    rw [L_MX_isUsed_23, if_pos (inb_nI hs (by decide)), nI_clamp (by omega), ek, ixm8, if_pos (nI_le (by omega) (by omega))]
    rw [b2_iff (Q := P) ⟨fun h => h.elim id (fun ⟨b, h1, h2, _⟩ => absurd h2 (by omega)), Or.inl⟩]
  | succ m ih =>
    intro j n P hm hj hn
    obtain ⟨n, rfl⟩ : ∃ k, n = k + 1 := ⟨n - 1, by omega⟩
    rw [L_MX_isUsed_23, if_pos (inb_nI hs (by decide)), nI_clamp (show s < 2 ^ 31 by omega), ek, ixm8, if_neg (nI_ge (by omega) (by omega)), nI_1]
    by_cases hP : P
    · rw [b2_t hP, if_neg one0, ← b2_t (P := True) trivial, show 8 * s + j + 1 = 8 * s + (j + 1) by omega, ih (j + 1) n True (by omega) (by omega) (by omega)]
      rw [b2_t (Or.inl trivial), b2_t (Or.inl hP)]
    · rw [b2_f hP, if_pos rfl, if_pos (inb_nI (show 8 * s + j < 192 by omega) (by decide)), nI_clamp (by omega)]
      by_cases c : gA T 12 (8 * s + j) = nI q
      · rw [if_pos c, ← b2_t (P := True) trivial, show 8 * s + j + 1 = 8 * s + (j + 1) by omega, ih (j + 1) n True (by omega) (by omega) (by omega), b2_t (Or.inl trivial), b2_t (Or.inr ⟨j, Nat.le_refl _, by omega, c⟩)]
      · rw [if_neg c, ← b2_f (P := False) id, show 8 * s + j + 1 = 8 * s + (j + 1) by omega, ih (j + 1) n False (by omega) (by omega) (by omega)]
        congr 1
        apply b2_iff
        constructor
        · rintro (h | ⟨b, h1, h2, h3⟩)
          · exact h.elim
          · exact Or.inr ⟨b, by omega, h2, h3⟩
        · rintro (h | ⟨b, h1, h2, h3⟩)
          · exact absurd h hP
          · refine Or.inr ⟨b, ?_, h2, h3⟩
            rcases Nat.lt_or_ge j b with h | h
            · exact h
            · exact absurd (by rw [show j = b by omega]; exact h3) c
/-- what a SELECT's number of BRANCHES says -/
def RCnt (mk : Nat → Int32) : Prop := ∀ s, s < 24 → ∃ k : Nat, k ≤ 8 ∧ mk s = nI k
theorem isUsed_out (T : StM) (q nE : Nat) (hE : nE ≤ 24) (hEm : gI T 4 = nI nE) (hk : RCnt (gA T 11)) : ∀ (m i n : Nat) (P : Prop), m = nE - i → i ≤ nE → m < n → L_MX_isUsed_9 T (nI q) n (b2 P) (nI i) = some (b2 (P ∨ ∃ s b, i ≤ s ∧ s < nE ∧ b < (gA T 11 s).toNatClampNeg ∧ gA T 12 (8 * s + b) = nI q)) := by
  intro m
  induction m with
  | zero =>
    intro i n P hm hj hn
    obtain ⟨n, rfl⟩ : ∃ k, n = k + 1 := ⟨n - 1, by omega⟩
    rw [L_MX_isUsed_9, hEm, if_pos (nI_le (by omega) (by omega))]
    rw [b2_iff (Q := P) ⟨fun h => h.elim id (fun ⟨s, b, h1, h2, _⟩ => absurd h2 (by omega)), Or.inl⟩]
  | succ m ih =>
    intro i n P hm hj hn
    obtain ⟨n, rfl⟩ : ∃ k, n = k + 1 := ⟨n - 1, by omega⟩
    obtain ⟨k, hk8, ek⟩ := hk i (by omega)
    have hin := isUsed_in T q i k (by omega) hk8 ek k 0 100 P (by omega) (by omega) (by omega)
    rw [L_MX_isUsed_9, hEm, if_neg (nI_ge (by omega) (by omega)), m8, show nI (8 * i) = nI (8 * i + 0) from rfl, hin, Option.bind_some, nI_1, ih (i + 1) n _ (by omega) (by omega) (by omega)]
    congr 1
    apply b2_iff
    constructor
    · rintro ((h | ⟨b, h1, h2, h3⟩) | ⟨s, b, h1, h2, h3, h4⟩)
      · exact Or.inl h
      · exact Or.inr ⟨i, b, Nat.le_refl _, by omega, by rw [ek, nI_clamp (by omega)]; exact h2, h3⟩
      · exact Or.inr ⟨s, b, by omega, h2, h3, h4⟩
    · rintro (h | ⟨s, b, h1, h2, h3, h4⟩)
      · exact Or.inl (Or.inl h)
      · by_cases e : s = i
        · subst e
          rw [ek, nI_clamp (by omega)] at h3
          exact Or.inl (Or.inr ⟨b, Nat.zero_le _, h3, h4⟩)
        · exact Or.inr ⟨s, b, by omega, h2, h3, h4⟩
theorem isUsedM {T : StM} {nE q : Nat} (hE : nE ≤ 24) (hEm : gI T 4 = nI nE) (hk : RCnt (gA T 11)) (hq : q < 40) (hw : gA T 18 q = 0 ∨ gA T 18 q = 1) : m_MX_isUsed T (nI q) = some (b2 (gA T 18 q = 1 ∨ ∃ s b, s < nE ∧ b < (gA T 11 s).toNatClampNeg ∧ gA T 12 (8 * s + b) = nI q)) := by
  have e : gA T 18 q = b2 (gA T 18 q = 1) := by
    rcases hw with h | h
    · rw [b2_f (by rw [h]; decide), h]
    · rw [b2_t h]; exact h
  unfold m_MX_isUsed
  rw [if_pos (inb_nI hq (by decide)), nI_clamp (by omega)]
  have ho := isUsed_out T q nE hE hEm hk nE 0 100 (gA T 18 q = 1) (by omega) (by omega) (by omega)
  rw [← e] at ho
  rw [show (0 : Int32) = nI 0 from rfl, ho, Option.bind_some, if_pos (b2_isB _)]
  congr 1
  apply b2_iff
  exact ⟨fun h => h.imp id (fun ⟨s, b, _, h2⟩ => ⟨s, b, h2⟩), fun h => h.imp id (fun ⟨s, b, h2⟩ => ⟨s, b, Nat.zero_le _, h2⟩)⟩
theorem dupC_l (S : StC) (q k : Nat) (x : Int32) (hq : q < 40) (hk : k ≤ 6) : ∀ (m i n : Nat), m = k - i → i ≤ k → m < n → ((∀ j, i ≤ j → j < k → ¬ gA S 5 (6 * q + j) = x) → L_CConditions_addAsking_27 S (nI q) x (nI k) n (nI i) = some (.inl ())) ∧ ((∃ j, i ≤ j ∧ j < k ∧ gA S 5 (6 * q + j) = x) → L_CConditions_addAsking_27 S (nI q) x (nI k) n (nI i) = some (.inr (0, S))) := by
  intro m
  induction m with
  | zero =>
    intro i n hm hi hn
    obtain ⟨n, rfl⟩ : ∃ k, n = k + 1 := ⟨n - 1, by omega⟩
    refine ⟨fun _ => ?_, fun ⟨c, h1, h2, _⟩ => absurd h2 (by omega)⟩
    rw [L_CConditions_addAsking_27, if_pos (nI_le (by omega) (by omega))]
  | succ m ih =>
    intro i n hm hi hn
    obtain ⟨n, rfl⟩ : ∃ k, n = k + 1 := ⟨n - 1, by omega⟩
    obtain ⟨g1, g2⟩ := ih (i + 1) n (by omega) (by omega) (by omega)
    have hh : L_CConditions_addAsking_27 S (nI q) x (nI k) (n + 1) (nI i) = if gA S 5 (6 * q + i) = x then some (.inr (0, S)) else L_CConditions_addAsking_27 S (nI q) x (nI k) n (nI (i + 1)) := by
      rw [L_CConditions_addAsking_27, if_neg (nI_ge (by omega) (by omega)), m_CConditions_askingAt, ixc6, if_pos (inb_nI (show 6 * q + i < 240 by omega) (by decide)), Option.bind_some, nI_clamp (by omega), nI_1]
    rw [hh]
    refine ⟨fun h => ?_, fun ⟨c, c1, c2, c3⟩ => ?_⟩
    · rw [if_neg (h i (Nat.le_refl _) (by omega))]
      exact g1 (fun c h1 h2 => h c (by omega) h2)
    · by_cases ci : gA S 5 (6 * q + i) = x
      · rw [if_pos ci]
      · rw [if_neg ci]
        refine g2 ⟨c, ?_, c2, c3⟩
        rcases Nat.lt_or_ge i c with h | h
        · exact h
        · exact absurd (by rw [show i = c by omega]; exact c3) ci
theorem dupM_l (T : StM) (q k : Nat) (x1 x2 x3 x4 : Int32) (hq : q < 40) (hk : k ≤ 6) : ∀ (m i n : Nat), m = k - i → i ≤ k → m < n → ((∀ j, i ≤ j → j < k → ¬ (gA T 9 (6 * q + j) = x2 ∧ gA T 7 (6 * q + j) = x3 ∧ gA T 8 (6 * q + j) = x4)) → L_MX_asks_95 T x1 x2 x3 x4 (nI (6 * q + k)) n (nI (6 * q + i)) = some (.inl ())) ∧ ((∃ j, i ≤ j ∧ j < k ∧ gA T 9 (6 * q + j) = x2 ∧ gA T 7 (6 * q + j) = x3 ∧ gA T 8 (6 * q + j) = x4) → L_MX_asks_95 T x1 x2 x3 x4 (nI (6 * q + k)) n (nI (6 * q + i)) = some (.inr (0, T))) := by
  intro m
  induction m with
  | zero =>
    intro i n hm hi hn
    obtain ⟨n, rfl⟩ : ∃ k, n = k + 1 := ⟨n - 1, by omega⟩
    refine ⟨fun _ => ?_, fun ⟨c, h1, h2, _⟩ => absurd h2 (by omega)⟩
    rw [L_MX_asks_95, if_pos (nI_le (by omega) (by omega))]
  | succ m ih =>
    intro i n hm hi hn
    obtain ⟨n, rfl⟩ : ∃ k, n = k + 1 := ⟨n - 1, by omega⟩
    obtain ⟨g1, g2⟩ := ih (i + 1) n (by omega) (by omega) (by omega)
    have hh : L_MX_asks_95 T x1 x2 x3 x4 (nI (6 * q + k)) (n + 1) (nI (6 * q + i)) = if gA T 9 (6 * q + i) = x2 then if gA T 7 (6 * q + i) = x3 then if gA T 8 (6 * q + i) = x4 then some (.inr (0, T)) else L_MX_asks_95 T x1 x2 x3 x4 (nI (6 * q + k)) n (nI (6 * q + (i + 1))) else L_MX_asks_95 T x1 x2 x3 x4 (nI (6 * q + k)) n (nI (6 * q + (i + 1))) else L_MX_asks_95 T x1 x2 x3 x4 (nI (6 * q + k)) n (nI (6 * q + (i + 1))) := by
      rw [L_MX_asks_95, if_neg (nI_ge (by omega) (by omega)), if_pos (inb_nI (show 6 * q + i < 240 by omega) (by decide)), nI_clamp (by omega), nI_1, show 6 * q + i + 1 = 6 * q + (i + 1) by omega]
    rw [hh]
    refine ⟨fun h => ?_, fun ⟨c, c1, c2, c3⟩ => ?_⟩
    · have h1 := g1 (fun c h1 h2 => h c (by omega) h2)
      have h2 := h i (Nat.le_refl _) (by omega)
      by_cases d1 : gA T 9 (6 * q + i) = x2
      · rw [if_pos d1]
        by_cases d2 : gA T 7 (6 * q + i) = x3
        · rw [if_pos d2]
          by_cases d3 : gA T 8 (6 * q + i) = x4
          · exact absurd ⟨d1, d2, d3⟩ h2
          · rw [if_neg d3]; exact h1
        · rw [if_neg d2]; exact h1
      · rw [if_neg d1]; exact h1
    · by_cases ci : gA T 9 (6 * q + i) = x2 ∧ gA T 7 (6 * q + i) = x3 ∧ gA T 8 (6 * q + i) = x4
      · rw [if_pos ci.1, if_pos ci.2.1, if_pos ci.2.2]
      · have h2 := g2 ⟨c, by
          rcases Nat.lt_or_ge i c with h | h
          · exact h
          · exact absurd (by rw [show i = c by omega]; exact c3) ci, c2, c3⟩
        rw [h2]
        by_cases d1 : gA T 9 (6 * q + i) = x2
        · rw [if_pos d1]
          by_cases d2 : gA T 7 (6 * q + i) = x3
          · rw [if_pos d2, if_neg (fun d3 => ci ⟨d1, d2, d3⟩)]
          · rw [if_neg d2]
        · rw [if_neg d1]
