theorem relB_8 {S : StC} {T : StM} {nS nP nK nQ nT nE nN : Nat} (h : RelB S T nS nP nK nQ nT nE nN) (g : Nat → Int32) : RelB (pA S 8 g) T nS nP nK nQ nT nE nN := h
theorem find1 {S : StC} {T : StM} {nS nP nK nQ nT nE nN : Nat} (h : RelB S T nS nP nK nQ nT nE nN) : ∀ (m i n : Nat) (g : Nat → Int32), m = nT - i → i ≤ nT → m < n → ∃ g', L_CX_findWhatTargetsRead_2 n (pA S 8 g) (nI i) = some (pA S 8 g') ∧ (∀ t, t < i → g' t = g t) ∧ ∀ t, i ≤ t → t < nT → Rep (g' t) (rwT nS T t) := by
  have h0 := h
  obtain ⟨⟨hS, hSc, hSm⟩, ⟨hP, hPc, hPm⟩, hK, ⟨hQ, hQc, hQm⟩, ⟨hT, hTc, hTm⟩, ⟨hE, hEc, hEm⟩, hN, r1, r2, r3, r4, r5, r6, r7, r8, -⟩ := h
  intro m
  induction m with
  | zero =>
    intro i n g hm hi hn
    obtain ⟨n, rfl⟩ : ∃ k, n = k + 1 := ⟨n - 1, by omega⟩
    have e : gI (pA S 8 g) 4 = nI nT := hTc
    refine ⟨g, ?_, fun _ _ => rfl, fun t h1 h2 => absurd h2 (by omega)⟩
    rw [L_CX_findWhatTargetsRead_2, e, if_pos (nI_le (by omega) (by omega))]
  | succ m ih =>
    intro i n g hm hi hn
    obtain ⟨n, rfl⟩ : ∃ k, n = k + 1 := ⟨n - 1, by omega⟩
    have e : gI (pA S 8 g) 4 = nI nT := hTc
    have e7 : gA (pA S 8 g) 7 = gA S 7 := rfl
    have go : ∀ y : Int32, Rep y (rwT nS T i) → L_CX_findWhatTargetsRead_2 (n + 1) (pA S 8 g) (nI i) = L_CX_findWhatTargetsRead_2 n (tA (pA S 8 g) 8 (nI i) y) (nI i + 1) → ∃ g', L_CX_findWhatTargetsRead_2 (n + 1) (pA S 8 g) (nI i) = some (pA S 8 g') ∧ (∀ t, t < i → g' t = g t) ∧ ∀ t, i ≤ t → t < nT → Rep (g' t) (rwT nS T t) := by
      intro y hy hu
      obtain ⟨g', f1, f2, f3⟩ := ih (i + 1) n (upd g i y) (by omega) (by omega) (by omega)
      refine ⟨g', ?_, fun t ht => ?_, fun t h1 h2 => ?_⟩
      · rw [hu, tA_pA, nI_clamp (by omega), nI_1, f1]
      · rw [f2 t (by omega), upd_e, if_neg (by omega)]
      · by_cases c : t = i
        · rw [c, f2 i (by omega), upd_e, if_pos rfl]; exact hy
        · exact f3 t (by omega) h2
    obtain ⟨w1, w2⟩ := r6 i (by omega)
    rcases w2 with w | ⟨q, hq, w⟩
    · refine go 0 (rep_iff rep_0 (fun b _ => ⟨False.elim, fun ⟨q, h1, h2, _⟩ => by rw [w] at h1; exact nI_ne_m1 (by omega) h1.symm⟩)) ?_
      rw [L_CX_findWhatTargetsRead_2, e, if_neg (nI_ge (by omega) (by omega)), if_pos (inb_nI (show i < 16 by omega) (by decide)), nI_clamp (by omega), e7, w1, if_pos w]
    · obtain ⟨z, f1, f2⟩ := askedC (relB_8 h0 g) (show q < 40 by omega)
      refine go (z &&& 65535) (rep_iff (rep_low f2) (fun b _ => (rb_w w (by omega) b).symm)) ?_
      rw [L_CX_findWhatTargetsRead_2, e, if_neg (nI_ge (by omega) (by omega)), if_pos (inb_nI (show i < 16 by omega) (by decide)), nI_clamp (by omega), e7, w1, if_neg (by rw [w]; exact nI_ne_m1 (by omega)), w, f1, Option.bind_some]
theorem find2i {S : StC} {T : StM} {nS nP nK nQ nT nE nN s k : Nat} (h : RelB S T nS nP nK nQ nT nE nN) (hs : s < nE) (hk : k ≤ 8) (ekc : gA S 12 s = nI k) (ekm : gA T 11 s = nI k) : ∀ (m d n : Nat) (g : Nat → Int32) (P : Nat → Nat → Prop), m = k - d → d ≤ k → m < n → (∀ t, t < nT → Rep (g t) (P t)) → ∃ g', L_CX_findWhatTargetsRead_71 (nI s) n (pA S 8 g) (nI d) = some (pA S 8 g') ∧ ∀ t, t < nT → Rep (g' t) (fun b => P t b ∨ (gA T 10 s = nI t ∧ ∃ e, d ≤ e ∧ e < k ∧ ∃ q : Nat, gA T 12 (8 * s + e) = nI q ∧ q < 40 ∧ rbT nS T q b)) := by
  have h0 := h
  obtain ⟨⟨hS, hSc, hSm⟩, ⟨hP, hPc, hPm⟩, hK, ⟨hQ, hQc, hQm⟩, ⟨hT, hTc, hTm⟩, ⟨hE, hEc, hEm⟩, hN, r1, r2, r3, r4, r5, r6, r7, r8, -⟩ := h
  obtain ⟨k2, hk2, -, ekm2, -, hkb⟩ := r7 s (by omega)
  have ek : k2 = k := nI_inj (by omega) (by omega) (ekm2.symm.trans ekm)
  subst ek
  obtain ⟨t0, ht0, ec, em⟩ := r8 s hs
  have es := nI_clamp (show s < 2 ^ 31 by omega)
  have b1 : inb (nI s) 24 = true := inb_nI (by omega) (by decide)
  intro m
  induction m with
  | zero =>
    intro d n g P hm hd hn hP'
    obtain ⟨n, rfl⟩ : ∃ k, n = k + 1 := ⟨n - 1, by omega⟩
    have e12 : gA (pA S 8 g) 12 s = nI k2 := ekc
    refine ⟨g, ?_, fun t ht => rep_iff (hP' t ht) (fun b _ => ⟨Or.inl, fun h => h.elim id (fun ⟨_, e, h1, h2, _⟩ => absurd h2 (by omega))⟩)⟩
    rw [L_CX_findWhatTargetsRead_71, if_pos b1, es, e12, if_pos (nI_le (by omega) (by omega))]
  | succ m ih =>
    intro d n g P hm hd hn hP'
    obtain ⟨n, rfl⟩ : ∃ k, n = k + 1 := ⟨n - 1, by omega⟩
    have e12 : gA (pA S 8 g) 12 s = nI k2 := ekc
    have e9 : gA (pA S 8 g) 9 s = nI t0 := ec
    obtain ⟨c1, -, -, ⟨q, hq, eq⟩, -⟩ := hkb d (by omega)
    have e13 : gA (pA S 8 g) 13 (8 * s + d) = nI q := (show gA S 13 (8 * s + d) = nI q from c1.trans eq)
    obtain ⟨z, f1, f2⟩ := askedC (relB_8 h0 g) (show q < 40 by omega)
    have hu : L_CX_findWhatTargetsRead_71 (nI s) (n + 1) (pA S 8 g) (nI d) = L_CX_findWhatTargetsRead_71 (nI s) n (pA S 8 (upd g t0 (g t0 ||| (z &&& 65535)))) (nI (d + 1)) := by
      rw [L_CX_findWhatTargetsRead_71, if_pos b1, es, e12, if_neg (nI_ge (by omega) (by omega)), m_CSelects_conditionAt, m_CSelects_place, Option.bind_some, ixc8, if_pos (inb_nI (show 8 * s + d < 192 by omega) (by decide)), nI_clamp (show 8 * s + d < 2 ^ 31 by omega), e13, Option.bind_some, f1, Option.bind_some, e9, if_pos (inb_nI (show t0 < 16 by omega) (by decide)), tA_pA, gA_ps, nI_clamp (show t0 < 2 ^ 31 by omega), nI_1]
    obtain ⟨g', q1, q2⟩ := ih (d + 1) n (upd g t0 (g t0 ||| (z &&& 65535))) (fun t b => P t b ∨ (t = t0 ∧ rbT nS T q b)) (by omega) (by omega) (by omega) (fun t ht => by
      rw [upd_e]
      by_cases c : t = t0
      · rw [if_pos c]
        refine rep_iff (rep_or (hP' t0 ht0) (rep_low f2)) (fun b _ => ?_)
        rw [c]
        exact ⟨fun h => h.imp id (fun h => ⟨rfl, h⟩), fun h => h.imp id (fun h => h.2)⟩
      · rw [if_neg c]
        exact rep_iff (hP' t ht) (fun b _ => ⟨Or.inl, fun h => h.elim id (fun h => absurd h.1 c)⟩))
    refine ⟨g', hu.trans q1, fun t ht => rep_iff (q2 t ht) (fun b _ => ?_)⟩
    constructor
    · rintro ((h | ⟨h1, h2⟩) | ⟨h1, e, h2, h3, h4⟩)
      · exact Or.inl h
      · exact Or.inr ⟨by rw [h1, em], d, Nat.le_refl _, by omega, q, eq, by omega, h2⟩
      · exact Or.inr ⟨h1, e, by omega, h3, h4⟩
    · rintro (h | ⟨h1, e, h2, h3, q', h4, h5, h6⟩)
      · exact Or.inl (Or.inl h)
      · by_cases c : e = d
        · subst c
          rw [nI_inj (by omega) (by omega) (h4.symm.trans eq)] at h6
          exact Or.inl (Or.inr ⟨nI_inj (by omega) (by omega) (h1.symm.trans em), h6⟩)
        · exact Or.inr ⟨h1, e, by omega, h3, q', h4, h5, h6⟩
theorem find2 {S : StC} {T : StM} {nS nP nK nQ nT nE nN : Nat} (h : RelB S T nS nP nK nQ nT nE nN) : ∀ (m i n : Nat) (g : Nat → Int32) (P : Nat → Nat → Prop), m = nE - i → i ≤ nE → m < n → (∀ t, t < nT → Rep (g t) (P t)) → ∃ g', L_CX_findWhatTargetsRead_58 n (pA S 8 g) (nI i) = some (pA S 8 g') ∧ ∀ t, t < nT → Rep (g' t) (fun b => P t b ∨ ∃ s, i ≤ s ∧ s < nE ∧ rsT nS T t s b) := by
  have h0 := h
  obtain ⟨hS, hP, hK, hQ, hT, ⟨hE, hEc, hEm⟩, hN, r1, r2, r3, r4, r5, r6, r7, -⟩ := h
  intro m
  induction m with
  | zero =>
    intro i n g P hm hi hn hP'
    obtain ⟨n, rfl⟩ : ∃ k, n = k + 1 := ⟨n - 1, by omega⟩
    have e : gI (pA S 8 g) 5 = nI nE := hEc
    refine ⟨g, ?_, fun t ht => rep_iff (hP' t ht) (fun b _ => ⟨Or.inl, fun h => h.elim id (fun ⟨s, h1, h2, _⟩ => absurd h2 (by omega))⟩)⟩
    rw [L_CX_findWhatTargetsRead_58, e, if_pos (nI_le (by omega) (by omega))]
  | succ m ih =>
    intro i n g P hm hi hn hP'
    obtain ⟨n, rfl⟩ : ∃ k, n = k + 1 := ⟨n - 1, by omega⟩
    have e : gI (pA S 8 g) 5 = nI nE := hEc
    obtain ⟨k, hk, ekc, ekm, -⟩ := r7 i (by omega)
    obtain ⟨g1, f1, f2⟩ := find2i h0 (show i < nE by omega) hk ekc ekm k 0 100 g P (by omega) (by omega) (by omega) hP'
    obtain ⟨g', q1, q2⟩ := ih (i + 1) n g1 _ (by omega) (by omega) (by omega) f2
    refine ⟨g', ?_, fun t ht => rep_iff (q2 t ht) (fun b _ => ?_)⟩
    · rw [L_CX_findWhatTargetsRead_58, e, if_neg (nI_ge (by omega) (by omega)), show L_CX_findWhatTargetsRead_71 (nI i) 100 (pA S 8 g) 0 = _ from f1, Option.bind_some, nI_1, q1]
    · have ek : (gA T 11 i).toNatClampNeg = k := by rw [ekm, nI_clamp (by omega)]
      constructor
      · rintro ((h | ⟨h1, d, _, h3, h4⟩) | ⟨s, h1, h2, h3⟩)
        · exact Or.inl h
        · exact Or.inr ⟨i, Nat.le_refl _, by omega, h1, d, by rw [ek]; exact h3, h4⟩
        · exact Or.inr ⟨s, by omega, h2, h3⟩
      · rintro (h | ⟨s, h1, h2, h3⟩)
        · exact Or.inl (Or.inl h)
        · by_cases c : s = i
          · subst c
            obtain ⟨h4, d, h5, h6⟩ := h3
            rw [ek] at h5
            exact Or.inl (Or.inr ⟨h4, d, Nat.zero_le _, h5, h6⟩)
          · exact Or.inr ⟨s, by omega, h2, h3⟩
/-- one NEED, and all NEEDS from the i-th on, over sets -/
def stepP (T : StM) (P : Nat → Nat → Prop) (e t b : Nat) : Prop := P t b ∨ (gA T 19 e = nI t ∧ ∃ u, u < 16 ∧ gA T 20 e = nI u ∧ P u b)
def passP (T : StM) : Nat → Nat → (Nat → Nat → Prop) → Nat → Nat → Prop
  | 0, _, P => P
  | m + 1, i, P => passP T m (i + 1) (fun t b => stepP T P i t b)
def itP (T : StM) (nN : Nat) : Nat → (Nat → Nat → Prop) → Nat → Nat → Prop
  | 0, P => P
  | k + 1, P => itP T nN k (passP T nN 0 P)
theorem find3i {S : StC} {T : StM} {nS nP nK nQ nT nE nN : Nat} (x1 : Int32) (h : RelB S T nS nP nK nQ nT nE nN) : ∀ (m i n : Nat) (g : Nat → Int32) (P : Nat → Nat → Prop), m = nN - i → i ≤ nN → m < n → (∀ t, t < nT → Rep (g t) (P t)) → ∃ g', L_CX_findWhatTargetsRead_145 x1 n (pA S 8 g) (nI i) = some (pA S 8 g') ∧ ∀ t, t < nT → Rep (g' t) (passP T m i P t) := by
  have h0 := h
  obtain ⟨hS, hP, hK, hQ, ⟨hT, hTc, hTm⟩, hE, ⟨hN, hNc, hNm⟩, r1, r2, r3, r4, r5, r6, r7, r8, r9, r10, r11, r12, -⟩ := h
  intro m
  induction m with
  | zero =>
    intro i n g P hm hi hn hP'
    obtain ⟨n, rfl⟩ : ∃ k, n = k + 1 := ⟨n - 1, by omega⟩
    have e : gI (pA S 8 g) 6 = nI nN := hNc
    refine ⟨g, ?_, hP'⟩
    rw [L_CX_findWhatTargetsRead_145, e, if_pos (nI_le (by omega) (by omega))]
  | succ m ih =>
    intro i n g P hm hi hn hP'
    obtain ⟨n, rfl⟩ : ∃ k, n = k + 1 := ⟨n - 1, by omega⟩
    have e : gI (pA S 8 g) 6 = nI nN := hNc
    have hm' : m = nN - (i + 1) := by omega
    have hi' : i < nN := by omega
    obtain ⟨hh, -⟩ := r12 i (by omega)
    obtain ⟨⟨f, hf, efc, efm⟩, ⟨u, hu, euc, eum⟩⟩ := hh hi'
    clear hh
    have e16 : gA (pA S 8 g) 16 i = nI f := efc
    have e17 : gA (pA S 8 g) 17 i = nI u := euc
    have hu' : L_CX_findWhatTargetsRead_145 x1 (n + 1) (pA S 8 g) (nI i) = L_CX_findWhatTargetsRead_145 x1 n (pA S 8 (upd g f (g f ||| g u))) (nI (i + 1)) := by
      rw [L_CX_findWhatTargetsRead_145, e, if_neg (nI_ge (by omega) (by omega)), if_pos (inb_nI (show i < 40 by omega) (by decide)), nI_clamp (show i < 2 ^ 31 by omega), e16, e17, if_pos (inb_nI (show f < 16 by omega) (by decide)), if_pos (inb_nI (show u < 16 by omega) (by decide)), tA_pA, gA_ps, nI_clamp (show f < 2 ^ 31 by omega), nI_clamp (show u < 2 ^ 31 by omega), nI_1]
    obtain ⟨g', q1, q2⟩ := ih (i + 1) n (upd g f (g f ||| g u)) (fun t b => stepP T P i t b) hm' hi' (by omega) (fun t ht => by
      rw [upd_e]
      by_cases c : t = f
      · rw [if_pos c, c]
        refine rep_iff (rep_or (hP' f hf) (hP' u hu)) (fun b _ => ?_)
        exact ⟨fun h => h.imp id (fun h => ⟨efm, u, by omega, eum, h⟩), fun h => h.imp id (fun ⟨_, u', h1, h2, h3⟩ => by rw [nI_inj (by omega) (by omega) (eum.symm.trans h2)]; exact h3)⟩
      · rw [if_neg c]
        exact rep_iff (hP' t ht) (fun b _ => ⟨Or.inl, fun h => h.elim id (fun ⟨h1, _⟩ => absurd (nI_inj (by omega) (by omega) (h1.symm.trans efm)) c)⟩))
    exact ⟨g', hu'.trans q1, q2⟩
theorem find3 {S : StC} {T : StM} {nS nP nK nQ nT nE nN : Nat} (h : RelB S T nS nP nK nQ nT nE nN) : ∀ (m i n : Nat) (g : Nat → Int32) (P : Nat → Nat → Prop), m = 16 - i → i ≤ 16 → m < n → (∀ t, t < nT → Rep (g t) (P t)) → ∃ g', L_CX_findWhatTargetsRead_137 n (pA S 8 g) (nI i) = some (pA S 8 g') ∧ ∀ t, t < nT → Rep (g' t) (itP T nN m P t) := by
  have hN : nN ≤ 40 := h.2.2.2.2.2.2.1.1
  intro m
  induction m with
  | zero =>
    intro i n g P hm hi hn hP'
    obtain ⟨n, rfl⟩ : ∃ k, n = k + 1 := ⟨n - 1, by omega⟩
    refine ⟨g, ?_, hP'⟩
    rw [L_CX_findWhatTargetsRead_137, if_pos (show (16 : Int32) ≤ nI i from nI_le (a := 16) (by omega) (by omega))]
  | succ m ih =>
    intro i n g P hm hi hn hP'
    obtain ⟨n, rfl⟩ : ∃ k, n = k + 1 := ⟨n - 1, by omega⟩
    obtain ⟨g1, f1, f2⟩ := find3i (nI i) h nN 0 100 g P (by omega) (by omega) (by omega) hP'
    obtain ⟨g', q1, q2⟩ := ih (i + 1) n g1 _ (by omega) (by omega) (by omega) f2
    refine ⟨g', ?_, q2⟩
    rw [L_CX_findWhatTargetsRead_137, if_neg (show ¬ (16 : Int32) ≤ nI i from nI_ge (b := 16) (by omega) (by decide)), show L_CX_findWhatTargetsRead_145 (nI i) 100 (pA S 8 g) 0 = _ from f1, Option.bind_some, nI_1, q1]
theorem findC {S : StC} {T : StM} {nS nP nK nQ nT nE nN : Nat} (h : RelB S T nS nP nK nQ nT nE nN) : ∃ g', m_CX_findWhatTargetsRead S = some (pA S 8 g') ∧ ∀ t, t < nT → Rep (g' t) (itP T nN 16 (roT nS nE T) t) := by
  have hT : nT ≤ 16 := h.2.2.2.2.1.1
  have hE : nE ≤ 24 := h.2.2.2.2.2.1.1
  obtain ⟨g1, a1, -, a3⟩ := find1 h nT 0 100 (gA S 8) (by omega) (by omega) (by omega)
  rw [pA_self] at a1
  obtain ⟨g2, b1, b2'⟩ := find2 h nE 0 100 g1 _ (by omega) (by omega) (by omega) (fun t ht => a3 t (Nat.zero_le _) ht)
  obtain ⟨g3, c1, c2⟩ := find3 h 16 0 100 g2 (roT nS nE T) (by omega) (by omega) (by omega) (fun t ht => rep_iff (b2' t ht) (fun b _ => ⟨fun h => h.imp id (fun ⟨s, _, h2⟩ => ⟨s, h2⟩), fun h => h.imp id (fun ⟨s, h2⟩ => ⟨s, Nat.zero_le _, h2⟩)⟩))
  refine ⟨g3, ?_, c2⟩
  unfold m_CX_findWhatTargetsRead
  rw [show L_CX_findWhatTargetsRead_2 100 S 0 = _ from a1, Option.bind_some, show L_CX_findWhatTargetsRead_58 100 (pA S 8 g1) 0 = _ from b1, Option.bind_some, show L_CX_findWhatTargetsRead_137 100 (pA S 8 g2) 0 = _ from c1, Option.bind_some]
