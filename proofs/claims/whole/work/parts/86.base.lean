/-! the chain of ALIASES -/
def chn (n : Nat) (ma : Nat → Int32) : Nat → Int32 → Int32
  | 0, _ => -1
  | k + 1, x => if x < 0 ∨ nI n ≤ x then -1 else if ma x.toNatClampNeg = -1 then x else chn n ma k (ma x.toNatClampNeg)
theorem pig : ∀ (n k : Nat) (g : Nat → Nat), (∀ d, d < k → g d < n) → (∀ a b, a < k → b < k → g a = g b → a = b) → k ≤ n := by
  intro n
  induction n with
  | zero =>
    intro k g h _
    rcases Nat.eq_zero_or_pos k with e | e
    · omega
    · exact absurd (h 0 e) (by omega)
  | succ n ih =>
    intro k g h hi
    cases k with
    | zero => omega
    | succ k =>
      have := ih k (fun d => if g d = n then g k else g d) (fun d hd => by
        by_cases c : g d = n
        · simp only [if_pos c]
          have h1 := h k (by omega)
          have h2 : g k ≠ n := fun e => by have := hi d k (by omega) (by omega) (c.trans e.symm); omega
          omega
        · simp only [if_neg c]
          have h1 := h d (by omega)
          omega) (fun a b ha hb he => by
        by_cases c1 : g a = n
        · by_cases c2 : g b = n
          · exact hi a b (by omega) (by omega) (c1.trans c2.symm)
          · simp only [if_pos c1, if_neg c2] at he
            have := hi k b (by omega) (by omega) he
            omega
        · by_cases c2 : g b = n
          · simp only [if_neg c1, if_pos c2] at he
            have := hi a k (by omega) (by omega) he
            omega
          · simp only [if_neg c1, if_neg c2] at he
            exact hi a b (by omega) (by omega) he)
      omega
/-- the chain from x ends, after k steps -/
def endsIn (n : Nat) (ma : Nat → Int32) : Nat → Nat → Prop
  | 0, j => j < n ∧ ma j = -1
  | k + 1, j => j < n ∧ ¬ ma j = -1 ∧ ∃ i, ma j = nI i ∧ i < n ∧ endsIn n ma k i
theorem endsIn_lt {n : Nat} {ma : Nat → Int32} {k j : Nat} (h : endsIn n ma k j) : j < n := by
  cases k with
  | zero => exact h.1
  | succ k => exact h.1
theorem endsIn_one {n : Nat} {ma : Nat → Int32} (hn : n < 2 ^ 31) : ∀ (k l j : Nat), endsIn n ma k j → endsIn n ma l j → k = l := by
  intro k
  induction k with
  | zero =>
    intro l j h1 h2
    cases l with
    | zero => rfl
    | succ l => exact absurd h1.2 h2.2.1
  | succ k ih =>
    intro l j h1 h2
    cases l with
    | zero => exact absurd h2.2 h1.2.1
    | succ l =>
      obtain ⟨-, -, i, e1, l1, g1⟩ := h1
      obtain ⟨-, -, i', e2, l2, g2⟩ := h2
      have e : i = i' := nI_inj (by omega) (by omega) (e1.symm.trans e2)
      subst e
      rw [ih l i g1 g2]
theorem endsIn_below {n : Nat} {ma : Nat → Int32} : ∀ (k j : Nat), endsIn n ma k j → ∀ d, d ≤ k → ∃ i, endsIn n ma d i := by
  intro k
  induction k with
  | zero => intro j h d hd; exact ⟨j, by rw [show d = 0 by omega]; exact h⟩
  | succ k ih =>
    intro j h d hd
    by_cases e : d = k + 1
    · exact ⟨j, by rw [e]; exact h⟩
    · obtain ⟨-, -, i, -, -, g⟩ := h
      exact ih i g d (by omega)
theorem endsIn_short {n : Nat} {ma : Nat → Int32} (hn : n < 2 ^ 31) {k j : Nat} (h : endsIn n ma k j) : k < n := by
  have hx : ∀ d, ∃ i, d ≤ k → endsIn n ma d i := fun d => by
    by_cases c : d ≤ k
    · obtain ⟨i, hi⟩ := endsIn_below k j h d c
      exact ⟨i, fun _ => hi⟩
    · exact ⟨0, fun c' => absurd c' c⟩
  have := pig n (k + 1) (fun d => (hx d).choose) (fun d hd => endsIn_lt ((hx d).choose_spec (by omega))) (fun a b ha hb e => by
    have h1 := (hx a).choose_spec (by omega)
    have h2 := (hx b).choose_spec (by omega)
    have e' : (hx a).choose = (hx b).choose := e
    rw [← e'] at h2
    exact endsIn_one hn a b _ h1 h2)
  omega
theorem chn_more {n : Nat} {ma : Nat → Int32} (hn : n < 2 ^ 31) : ∀ (k : Nat) (x : Int32), chn n ma (k + 1) x = chn n ma k x ∨ ∃ j, x = nI j ∧ endsIn n ma k j := by
  intro k
  induction k with
  | zero =>
    intro x
    rcases rng x hn with ⟨j, hj, rfl⟩ | hno
    · have c0 : ¬ (nI j < 0 ∨ nI n ≤ nI j) := by
        intro h
        rcases h with h | h
        · exact nI_pos (by omega) h
        · exact nI_ge hj hn h
      by_cases c : ma j = -1
      · exact Or.inr ⟨j, rfl, hj, c⟩
      · left
        simp only [chn, if_neg c0, nI_clamp (show j < 2 ^ 31 by omega), if_neg c]
    · left
      simp only [chn, if_pos hno]
  | succ k ih =>
    intro x
    rcases rng x hn with ⟨j, hj, rfl⟩ | hno
    · have c0 : ¬ (nI j < 0 ∨ nI n ≤ nI j) := by
        intro h
        rcases h with h | h
        · exact nI_pos (by omega) h
        · exact nI_ge hj hn h
      by_cases c : ma j = -1
      · left
        simp only [chn, if_neg c0, nI_clamp (show j < 2 ^ 31 by omega), if_pos c]
      · rcases ih (ma j) with h | ⟨i, e, h⟩
        · left
          rw [chn, if_neg c0, nI_clamp (show j < 2 ^ 31 by omega), if_neg c, h, chn, if_neg c0, nI_clamp (show j < 2 ^ 31 by omega), if_neg c]
        · exact Or.inr ⟨j, rfl, hj, c, i, e, endsIn_lt h, h⟩
    · left
      simp only [chn, if_pos hno]
theorem chn_17 {n : Nat} {ma : Nat → Int32} (hn : n ≤ 16) (x : Int32) : chn n ma 17 x = chn n ma 16 x := by
  rcases chn_more (ma := ma) (show n < 2 ^ 31 by omega) 16 x with h | ⟨j, -, h⟩
  · exact h
  · have := endsIn_short (by omega) h
    omega
theorem chn_ma {n : Nat} {ma mb : Nat → Int32} (hn : n < 2 ^ 31) (h : ∀ i, i < n → ma i = mb i) : ∀ (k : Nat) (x : Int32), chn n ma k x = chn n mb k x := by
  intro k
  induction k with
  | zero => intro x; rfl
  | succ k ih =>
    intro x
    rw [chn, chn]
    by_cases c : x < 0 ∨ nI n ≤ x
    · rw [if_pos c, if_pos c]
    · rw [if_neg c, if_neg c]
      rcases rng x hn with ⟨j, hj, rfl⟩ | hno
      · rw [nI_clamp (by omega), h j hj, ih]
      · exact absurd hno c
/-- what comes out: NONE, or a SETTING that is no ALIAS -/
theorem chn_is {n : Nat} {ma : Nat → Int32} (hn : n < 2 ^ 31) : ∀ (k : Nat) (x : Int32), chn n ma k x = -1 ∨ ∃ j, j < n ∧ ma j = -1 ∧ chn n ma k x = nI j := by
  intro k
  induction k with
  | zero => intro x; exact Or.inl rfl
  | succ k ih =>
    intro x
    rw [chn]
    by_cases c : x < 0 ∨ nI n ≤ x
    · rw [if_pos c]; exact Or.inl rfl
    · rw [if_neg c]
      rcases rng x hn with ⟨j, hj, rfl⟩ | hno
      · rw [nI_clamp (by omega)]
        by_cases c2 : ma j = -1
        · rw [if_pos c2]; exact Or.inr ⟨j, hj, c2, rfl⟩
        · rw [if_neg c2]; exact ih _
      · exact absurd hno c
theorem thr_or {x y : Int32} (h : ¬ (x < 0 ∨ y ≤ x)) : thr x y = some 1 := by
  unfold thr
  rw [if_neg (fun c => h (Or.inl c)), if_neg (fun c => h (Or.inr c))]
theorem baseC_l (S : StC) (nS : Nat) (hS : gI S 0 = nI nS) (h16 : nS ≤ 16) : ∀ (m i n : Nat) (x : Int32), m = 16 - i → i ≤ 16 → m < n → (L_CSettings_baseOf_4 S n x (nI i)).bind (fun o => exK o fun _ => some (-1)) = some (chn nS (gA S 2) m x) := by
  intro m
  induction m with
  | zero =>
    intro i n x hm hi hn
    obtain ⟨n, rfl⟩ : ∃ k, n = k + 1 := ⟨n - 1, by omega⟩
    rw [L_CSettings_baseOf_4, if_pos (show (16 : Int32) ≤ nI i from nI_le (a := 16) (by omega) (by omega))]
    rfl
  | succ m ih =>
    intro i n x hm hi hn
    obtain ⟨n, rfl⟩ : ∃ k, n = k + 1 := ⟨n - 1, by omega⟩
    rw [L_CSettings_baseOf_4, if_neg (show ¬ (16 : Int32) ≤ nI i from nI_ge (b := 16) (by omega) (by decide)), cS_e, hS, chn]
    by_cases c : x < 0 ∨ nI nS ≤ x
    · rw [thr_no c, if_pos c]; rfl
    · rw [thr_or c, if_neg c, Option.bind_some, if_neg one0]
      rcases rng x (n := nS) (by omega) with ⟨j, hj, rfl⟩ | hno
      · rw [if_pos (inb_nI (show j < 16 by omega) (by decide)), nI_clamp (by omega)]
        by_cases c2 : gA S 2 j = -1
        · rw [if_pos c2, if_pos c2]; rfl
        · rw [if_neg c2, if_neg c2, nI_1]
          exact ih (i + 1) n _ (by omega) (by omega) (by omega)
      · exact absurd hno c
theorem baseM_l (T : StM) (nS : Nat) (hS : gI T 0 = nI nS) (h16 : nS ≤ 16) : ∀ (m i n : Nat) (x : Int32), m = 17 - i → i ≤ 17 → m < n → (L_MX_baseOf_4 T n x (nI i)).bind (fun o => exK o fun _ => some (-1)) = some (chn nS (gA T 0) m x) := by
  intro m
  induction m with
  | zero =>
    intro i n x hm hi hn
    obtain ⟨n, rfl⟩ : ∃ k, n = k + 1 := ⟨n - 1, by omega⟩
    rw [L_MX_baseOf_4, if_pos (show (16 : Int32) < nI i from nI_lt (a := 16) (by omega) (by omega))]
    rfl
  | succ m ih =>
    intro i n x hm hi hn
    obtain ⟨n, rfl⟩ : ∃ k, n = k + 1 := ⟨n - 1, by omega⟩
    rw [L_MX_baseOf_4, if_neg (show ¬ (16 : Int32) < nI i from nI_nlt (a := 16) (by omega) (by decide)), in_e, hS, chn]
    by_cases c : x < 0 ∨ nI nS ≤ x
    · rw [thr_no c, if_pos c]; rfl
    · rw [thr_or c, if_neg c, Option.bind_some, if_neg one0]
      rcases rng x (n := nS) (by omega) with ⟨j, hj, rfl⟩ | hno
      · rw [if_pos (inb_nI (show j < 16 by omega) (by decide)), nI_clamp (by omega)]
        by_cases c2 : gA T 0 j = -1
        · rw [if_pos c2, if_pos c2]; rfl
        · rw [if_neg c2, if_neg c2, nI_1]
          exact ih (i + 1) n _ (by omega) (by omega) (by omega)
      · exact absurd hno c
/-- a SETTING's BASE -/
def bas (n : Nat) (ma : Nat → Int32) (x : Int32) : Int32 := chn n ma 16 x
theorem baseM {T : StM} {nS : Nat} (hS : gI T 0 = nI nS) (h16 : nS ≤ 16) (x : Int32) : m_MX_baseOf T x = some (bas nS (gA T 0) x) := by
  unfold m_MX_baseOf bas
  rw [← chn_17 h16]
  exact baseM_l T nS hS h16 17 0 100 x (by omega) (by omega) (by omega)
theorem baseC {S : StC} {T : StM} {nS : Nat} (hS : gI S 0 = nI nS) (h16 : nS ≤ 16) (h : ∀ i, i < nS → gA S 2 i = gA T 0 i) (x : Int32) : m_CSettings_baseOf S x = some (bas nS (gA T 0) x) := by
  unfold m_CSettings_baseOf bas
  rw [← chn_ma (show nS < 2 ^ 31 by omega) h]
  exact baseC_l S nS hS h16 16 0 100 x (by omega) (by omega) (by omega)
theorem bas_is {n : Nat} {ma : Nat → Int32} (hn : n ≤ 16) (x : Int32) : bas n ma x = -1 ∨ ∃ j, j < n ∧ ma j = -1 ∧ bas n ma x = nI j := chn_is (by omega) 16 x
theorem op2 : Op2 Rel := by
  intro S T a1 h
  have h0 := h
  obtain ⟨nS, nP, nK, nQ, nT, nE, nN, nR, ⟨hS, hSc, hSm⟩, hP, hK, hQ, hT, hE, hN, hR, r1, r2, r3, r4, r5, r6, r7, r8, r9, r10, r11, r12, r13, r14⟩ := h
  refine ⟨bas nS (gA T 0) a1, ?_, ?_, h0⟩
  · unfold m_CX_base
    rw [baseC (T := T) hSc hS (fun i hi => (r1 i hi).2.2.1)]
    rfl
  · unfold m_MX_base
    rw [baseM hSm hS]
    rfl
