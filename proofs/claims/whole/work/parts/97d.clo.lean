/-! least closed sets -/
/-- every NEED goes from a TARGET to a TARGET -/
def Edg (T : StM) (nN nT : Nat) : Prop := ∀ e, e < nN → ∃ f u : Nat, f < nT ∧ u < nT ∧ gA T 19 e = nI f ∧ gA T 20 e = nI u
theorem edg_of {S : StC} {T : StM} {nS nP nK nQ nT nE nN : Nat} (h : RelB S T nS nP nK nQ nT nE nN) : Edg T nN nT := by
  obtain ⟨hS, hP, hK, hQ, hT, hE, ⟨hN, -⟩, r1, r2, r3, r4, r5, r6, r7, r8, r9, r10, r11, r12, -⟩ := h
  intro e he
  obtain ⟨hh, -⟩ := r12 e (by omega)
  obtain ⟨⟨f, hf, -, efm⟩, ⟨u, hu, -, eum⟩⟩ := hh he
  exact ⟨f, u, hf, hu, efm, eum⟩
/-- the least set that holds R and that NEEDS lead back into -/
def CLo (T : StM) (nN nT : Nat) (R : Nat → Nat → Prop) (t b : Nat) : Prop := ∀ X : Nat → Prop, (∀ u, u < nT → R u b → X u) → (∀ e f u, e < nN → f < nT → u < nT → gA T 19 e = nI f → gA T 20 e = nI u → X u → X f) → X t
theorem clo_base {T : StM} {nN nT : Nat} {R : Nat → Nat → Prop} {u b : Nat} (hu : u < nT) (h : R u b) : CLo T nN nT R u b := fun _ h1 _ => h1 u hu h
theorem clo_edge {T : StM} {nN nT : Nat} {R : Nat → Nat → Prop} {e f u b : Nat} (he : e < nN) (hf : f < nT) (hu : u < nT) (ef : gA T 19 e = nI f) (eu : gA T 20 e = nI u) (h : CLo T nN nT R u b) : CLo T nN nT R f b := fun X h1 h2 => h2 e f u he hf hu ef eu (h X h1 h2)
theorem pass_mono (T : StM) : ∀ (m i : Nat) (P : Nat → Nat → Prop) (t b : Nat), P t b → passP T m i P t b := by
  intro m
  induction m with
  | zero => intro i P t b h; exact h
  | succ m ih => intro i P t b h; exact ih (i + 1) _ t b (Or.inl h)
theorem pass_one (T : StM) : ∀ (m i : Nat) (P : Nat → Nat → Prop) (e f u b : Nat), i ≤ e → e < i + m → gA T 19 e = nI f → gA T 20 e = nI u → u < 16 → P u b → passP T m i P f b := by
  intro m
  induction m with
  | zero => intro i P e f u b h1 h2; exact absurd h2 (by omega)
  | succ m ih =>
    intro i P e f u b h1 h2 ef eu hu h
    by_cases c : e = i
    · subst c
      exact pass_mono T m (e + 1) _ f b (Or.inr ⟨ef, u, hu, eu, h⟩)
    · exact ih (i + 1) _ e f u b (by omega) (by omega) ef eu hu (Or.inl h)
theorem pass_sound (T : StM) (nN nT : Nat) (hT : nT ≤ 16) (hE : Edg T nN nT) (R : Nat → Nat → Prop) : ∀ (m i : Nat) (P : Nat → Nat → Prop), i + m ≤ nN → (∀ t b, t < nT → P t b → CLo T nN nT R t b) → ∀ t b, t < nT → passP T m i P t b → CLo T nN nT R t b := by
  intro m
  induction m with
  | zero => intro i P hi h t b ht hp; exact h t b ht hp
  | succ m ih =>
    intro i P hi h
    refine ih (i + 1) _ (by omega) (fun t b ht hp => ?_)
    rcases hp with hp | ⟨ef, u, hu, eu, hp⟩
    · exact h t b ht hp
    · obtain ⟨f', u', hf', hu', ef', eu'⟩ := hE i (by omega)
      have e1 : u = u' := nI_inj (by omega) (by omega) (eu.symm.trans eu')
      subst e1
      exact clo_edge (by omega) ht hu' ef eu (h u b hu' hp)
theorem it_succ (T : StM) (nN : Nat) : ∀ (k : Nat) (P : Nat → Nat → Prop), itP T nN (k + 1) P = passP T nN 0 (itP T nN k P) := by
  intro k
  induction k with
  | zero => intro P; rfl
  | succ k ih => intro P; exact ih (passP T nN 0 P)
theorem it_mono (T : StM) (nN : Nat) (P : Nat → Nat → Prop) {t b : Nat} : ∀ (d k : Nat), itP T nN k P t b → itP T nN (k + d) P t b := by
  intro d
  induction d with
  | zero => intro k h; exact h
  | succ d ih =>
    intro k h
    rw [show k + (d + 1) = (k + d) + 1 by omega, it_succ]
    exact pass_mono T nN 0 _ t b (ih k h)
theorem it_sound (T : StM) (nN nT : Nat) (hT : nT ≤ 16) (hE : Edg T nN nT) (R : Nat → Nat → Prop) : ∀ (k : Nat) (t b : Nat), t < nT → itP T nN k R t b → CLo T nN nT R t b := by
  intro k
  induction k with
  | zero => intro t b ht h; exact clo_base ht h
  | succ k ih =>
    intro t b ht h
    rw [it_succ] at h
    exact pass_sound T nN nT hT hE R nN 0 _ (by omega) ih t b ht h
/-- sets that grow 17 times have more than 16 members -/
theorem grow_stop {nT : Nat} (n : Nat) (hn : nT ≤ n) (X : Nat → Nat → Prop) (hm : ∀ k t, X k t → X (k + 1) t) : ∃ k, k ≤ n ∧ ∀ t, t < nT → X (k + 1) t → X k t := by
  refine Classical.byContradiction (fun hne => ?_)
  have hx : ∀ k, ∃ t, k ≤ n → t < nT ∧ X (k + 1) t ∧ ¬ X k t := fun k => by
    by_cases hk : k ≤ n
    · refine Classical.byContradiction (fun h => hne ⟨k, hk, fun t ht h1 => Classical.byContradiction (fun h2 => h ⟨t, fun _ => ⟨ht, h1, h2⟩⟩)⟩)
    · exact ⟨0, fun h => absurd h hk⟩
  have mono : ∀ d k t, X k t → X (k + d) t := by
    intro d
    induction d with
    | zero => intro k t h; exact h
    | succ d ih => intro k t h; exact hm (k + d) t (ih k t h)
  have apart : ∀ a b, a < b → b ≤ n → ¬ (hx a).choose = (hx b).choose := by
    intro a b hab hb e
    obtain ⟨-, h1, -⟩ := (hx a).choose_spec (by omega)
    obtain ⟨-, -, h2⟩ := (hx b).choose_spec hb
    rw [← e] at h2
    have := mono (b - (a + 1)) (a + 1) _ h1
    rw [show a + 1 + (b - (a + 1)) = b by omega] at this
    exact h2 this
  have := pig nT (n + 1) (fun k => (hx k).choose) (fun d hd => ((hx d).choose_spec (by omega)).1) (fun a b ha hb e => by
    rcases Nat.lt_trichotomy a b with h | h | h
    · exact absurd e (apart a b h (by omega))
    · exact h
    · exact absurd e.symm (apart b a h (by omega)))
  omega
theorem it_clo {T : StM} {nN nT : Nat} (hT : nT ≤ 16) (hE : Edg T nN nT) (R : Nat → Nat → Prop) {t b : Nat} (ht : t < nT) : itP T nN 16 R t b ↔ CLo T nN nT R t b := by
  refine ⟨it_sound T nN nT hT hE R 16 t b ht, fun h => ?_⟩
  obtain ⟨k, hk, hs⟩ := grow_stop 16 hT (fun k t => itP T nN k R t b) (fun k t h => it_mono T nN R 1 k h)
  have hx : itP T nN k R t b := by
    refine (h (fun v => v < nT ∧ itP T nN k R v b) (fun u hu hr => ⟨hu, ?_⟩) (fun e f u he hf hu ef eu hxu => ⟨hf, hs f hf ?_⟩)).2
    · have := it_mono T nN R k 0 (t := u) (b := b) hr
      rw [Nat.zero_add] at this
      exact this
    · show itP T nN (k + 1) R f b
      rw [it_succ]
      exact pass_one T nN 0 _ e f u b (Nat.zero_le _) (by omega) ef eu (by omega) hxu.2
  have := it_mono T nN R (16 - k) k hx
  rw [show k + (16 - k) = 16 by omega] at this
  exact this
