theorem orL (F : Nat → Int32 → Int32 → Option Int32) (base k : Nat) (Q : Nat → Prop) (hz : ∀ (n : Nat) (P : Prop), F (n + 1) (b2 P) (nI (base + k)) = some (b2 P)) (hs : ∀ (n : Nat) (P : Prop) (i : Nat), i < k → F (n + 1) (b2 P) (nI (base + i)) = F n (b2 (P ∨ Q i)) (nI (base + (i + 1)))) : ∀ (m i n : Nat) (P : Prop), m = k - i → i ≤ k → m < n → F n (b2 P) (nI (base + i)) = some (b2 (P ∨ ∃ b, i ≤ b ∧ b < k ∧ Q b)) := by
  intro m
  induction m with
  | zero =>
    intro i n P hm hj hn
    obtain ⟨n, rfl⟩ : ∃ k, n = k + 1 := ⟨n - 1, by omega⟩
    rw [show i = k by omega, hz]
    rw [b2_iff (P := P ∨ _) (Q := P) ⟨fun h => h.elim id (fun ⟨b, h1, h2, _⟩ => absurd h2 (by omega)), Or.inl⟩]
  | succ m ih =>
    intro i n P hm hj hn
    obtain ⟨n, rfl⟩ : ∃ k, n = k + 1 := ⟨n - 1, by omega⟩
    rw [hs n P i (by omega), ih (i + 1) n _ (by omega) (by omega) (by omega)]
    congr 1
    apply b2_iff
    constructor
    · rintro ((h | h) | ⟨b, h1, h2, h3⟩)
      · exact Or.inl h
      · exact Or.inr ⟨i, Nat.le_refl _, by omega, h⟩
      · exact Or.inr ⟨b, by omega, h2, h3⟩
    · rintro (h | ⟨b, h1, h2, h3⟩)
      · exact Or.inl (Or.inl h)
      · by_cases e : b = i
        · rw [e] at h3; exact Or.inl (Or.inr h3)
        · exact Or.inr ⟨b, by omega, h2, h3⟩
theorem b2_or1 {P Q : Prop} (h : P) : (1 : Int32) = b2 (P ∨ Q) := (b2_t (Or.inl h)).symm
theorem b2_or2 {P Q : Prop} (h : Q) : (1 : Int32) = b2 (P ∨ Q) := (b2_t (Or.inr h)).symm
theorem b2_or0 {P Q : Prop} (h : ¬ P) (g : ¬ Q) : (0 : Int32) = b2 (P ∨ Q) := (b2_f (fun c => c.elim h g)).symm
theorem nestM {T : StM} {v k : Nat} (hv : v < 24) (hk : k ≤ 8) (ek : gA T 11 v = nI k) : m_MX_hasNested T (nI v) = some (b2 (∃ b, b < k ∧ ¬ gA T 15 (8 * v + b) = 0)) := by
  unfold m_MX_hasNested
  have h := orL (fun n x y => L_MX_hasNested_7 T (nI v) n x y) (8 * v) k (fun b => ¬ gA T 15 (8 * v + b) = 0) (fun n P => by
    simp only [L_MX_hasNested_7, inb_nI hv (show (24 : Nat) < 2 ^ 31 by omega), if_true, nI_clamp (show v < 2 ^ 31 by omega), ek, ixm8]
    rw [if_pos (nI_le (by omega) (by omega))]) (fun n P i hi => by
    simp only [L_MX_hasNested_7, inb_nI hv (show (24 : Nat) < 2 ^ 31 by omega), if_true, nI_clamp (show v < 2 ^ 31 by omega), ek, ixm8]
    rw [if_neg (nI_ge (by omega) (by omega)), nI_1, show 8 * v + i + 1 = 8 * v + (i + 1) by omega]
    by_cases hP : P
    · rw [b2_t hP, if_neg one0, ← b2_or1 hP]
    · rw [b2_f hP, if_pos rfl, if_pos (inb_nI (show 8 * v + i < 192 by omega) (by decide)), nI_clamp (by omega)]
      by_cases c : gA T 15 (8 * v + i) = 0
      · rw [if_pos c, ← b2_or0 hP (fun h => h c)]
      · rw [if_neg c, ← b2_or2 c]) k 0 100 False (by omega) (by omega) (by omega)
  rw [b2_f id] at h
  rw [m8, show nI (8 * v) = nI (8 * v + 0) from rfl]
  show (L_MX_hasNested_7 T (nI v) 100 0 (nI (8 * v + 0))).bind _ = _
  rw [h, Option.bind_some, if_pos (b2_isB _)]
  congr 1
  apply b2_iff
  exact ⟨fun h => h.elim False.elim (fun ⟨b, _, h2, h3⟩ => ⟨b, h2, h3⟩), fun ⟨b, h2, h3⟩ => Or.inr ⟨b, Nat.zero_le _, h2, h3⟩⟩
theorem withinM {T : StM} {s nE : Nat} (hE : nE ≤ 24) (hEm : gI T 4 = nI nE) (hc : RCnt (gA T 11)) : m_MX_isWithin T (nI s) = some (b2 (∃ r b, r < nE ∧ b < (gA T 11 r).toNatClampNeg ∧ ¬ gA T 15 (8 * r + b) = 0 ∧ gA T 13 (8 * r + b) = nI s)) := by
  unfold m_MX_isWithin
  have h := orL (fun n x y => L_MX_isWithin_4 T (nI s) n x y) 0 nE (fun r => ∃ b, b < (gA T 11 r).toNatClampNeg ∧ ¬ gA T 15 (8 * r + b) = 0 ∧ gA T 13 (8 * r + b) = nI s) (fun n P => by
    simp only [L_MX_isWithin_4, hEm, Nat.zero_add]
    rw [if_pos (nI_le (by omega) (by omega))]) (fun n P i hi => by
    obtain ⟨k, hk, ek⟩ := hc i (by omega)
    have h2 := orL (fun n x y => L_MX_isWithin_18 T (nI s) (nI i) n x y) (8 * i) k (fun b => ¬ gA T 15 (8 * i + b) = 0 ∧ gA T 13 (8 * i + b) = nI s) (fun n P => by
      simp only [L_MX_isWithin_18, inb_nI (show i < 24 by omega) (show (24 : Nat) < 2 ^ 31 by omega), if_true, nI_clamp (show i < 2 ^ 31 by omega), ek, ixm8]
      rw [if_pos (nI_le (by omega) (by omega))]) (fun n P j hj => by
      simp only [L_MX_isWithin_18, inb_nI (show i < 24 by omega) (show (24 : Nat) < 2 ^ 31 by omega), if_true, nI_clamp (show i < 2 ^ 31 by omega), ek, ixm8]
      rw [if_neg (nI_ge (by omega) (by omega)), nI_1, show 8 * i + j + 1 = 8 * i + (j + 1) by omega]
      by_cases hP : P
      · rw [b2_t hP, if_neg one0, ← b2_or1 hP]
      · rw [b2_f hP, if_pos rfl, if_pos (inb_nI (show 8 * i + j < 192 by omega) (by decide)), nI_clamp (by omega)]
        by_cases c : gA T 15 (8 * i + j) = 0
        · rw [if_pos c, ← b2_or0 hP (fun h => h.1 c)]
        · rw [if_neg c]
          by_cases c2 : gA T 13 (8 * i + j) = nI s
          · rw [if_pos c2, ← b2_or2 ⟨c, c2⟩]
          · rw [if_neg c2, ← b2_or0 hP (fun h => c2 h.2)]) k 0 100 P (by omega) (by omega) (by omega)
    simp only [L_MX_isWithin_4, hEm, Nat.zero_add]
    rw [if_neg (nI_ge hi (by omega)), m8, show nI (8 * i) = nI (8 * i + 0) from rfl, h2, Option.bind_some, nI_1]
    congr 1
    apply b2_iff
    rw [ek, nI_clamp (show k < 2 ^ 31 by omega)]
    exact ⟨fun h => h.imp id (fun ⟨b, _, h2, h3⟩ => ⟨b, h2, h3⟩), fun h => h.imp id (fun ⟨b, h2, h3⟩ => ⟨b, Nat.zero_le _, h2, h3⟩)⟩) nE 0 100 False (by omega) (by omega) (by omega)
  rw [b2_f id] at h
  show (L_MX_isWithin_4 T (nI s) 100 0 (nI (0 + 0))).bind _ = _
  rw [h, Option.bind_some, if_pos (b2_isB _)]
  congr 1
  apply b2_iff
  exact ⟨fun h => h.elim False.elim (fun ⟨r, _, h2, b, h3⟩ => ⟨r, b, h2, h3⟩), fun ⟨r, b, h2, h3⟩ => Or.inr ⟨r, Nat.zero_le _, h2, b, h3⟩⟩
/-- the relation behind a new BRANCH -/
theorem branch_rel {S : StC} {T : StM} {nS nP nK nQ nT nE nN nR : Nat} (h : RelN S T nS nP nK nQ nT nE nN nR) {s q k z : Nat} {x : Int32} (hs : s < nE) (hq : q < nQ) (hk : k < 8) (ekc : gA S 12 s = nI k) (ekm : gA T 11 s = nI k) (hz : z = 0 ∨ (z = 1 ∧ ∃ v : Nat, v < s ∧ x = nI v ∧ gA T 10 v = gA T 10 s ∧ (∀ b, b < (gA T 11 v).toNatClampNeg → gA T 15 (8 * v + b) = 0) ∧ ∀ r b, r < nE → b < (gA T 11 r).toNatClampNeg → ¬ gA T 15 (8 * r + b) = 0 → ¬ gA T 13 (8 * r + b) = nI s))
    (cw' ch' : Nat → Int32) (hw : (z = 0 ∧ cw' = gA S 10 ∧ ch' = gA S 11) ∨ (z = 1 ∧ ∃ v : Nat, x = nI v ∧ v < 24 ∧ cw' = upd (gA S 10) v 1 ∧ ch' = upd (gA S 11) s 1)) :
    RUsed nE (upd (gA S 6) q 1) (gA T 18) (upd (gA T 11) s (nI k + 1)) (upd (gA T 12) (8 * s + k) (nI q)) ∧ RSelA nE nQ (upd (gA S 12) s (nI k + 1)) (upd (gA S 13) (8 * s + k) (nI q)) (upd (gA S 14) (8 * s + k) (nI z)) (upd (gA S 15) (8 * s + k) x) (gA T 10) (upd (gA T 11) s (nI k + 1)) (upd (gA T 12) (8 * s + k) (nI q)) (upd (gA T 15) (8 * s + k) (nI z)) (upd (gA T 13) (8 * s + k) x) ∧ RSelW nE cw' (upd (gA T 11) s (nI k + 1)) (upd (gA T 15) (8 * s + k) (nI z)) (upd (gA T 13) (8 * s + k) x) ∧ RSelH ch' (upd (gA T 11) s (nI k + 1)) (upd (gA T 15) (8 * s + k) (nI z)) := by
  obtain ⟨⟨hS, hSc, hSm⟩, hP, hK, ⟨hQ, hQc, hQm⟩, hT, ⟨hE, hEc, hEm⟩, hN, hR, r1, r2, r3, r4, r5, r6, r7, r8, r9, r10, r11, r12, r13, r14⟩ := h
  have hcnt := cnt_of r7
  have cS : (upd (gA T 11) s (nI k + 1) s).toNatClampNeg = k + 1 := by rw [upd_e, if_pos rfl, nI_1, nI_clamp (by omega)]
  have cO : ∀ r, ¬ r = s → upd (gA T 11) s (nI k + 1) r = gA T 11 r := fun r hr => by rw [upd_e, if_neg hr]
  have kS : (gA T 11 s).toNatClampNeg = k := by rw [ekm, nI_clamp (by omega)]
  have kb : ∀ r, r < 24 → (gA T 11 r).toNatClampNeg ≤ 8 := fun r hr => by
    obtain ⟨k2, h1, h2⟩ := hcnt r hr
    rw [h2, nI_clamp (by omega)]; exact h1
  -- an entry is the new one, or an old one
  have old : ∀ r b, r < 24 → b < (upd (gA T 11) s (nI k + 1) r).toNatClampNeg → (r = s ∧ b = k) ∨ (b < (gA T 11 r).toNatClampNeg ∧ ¬ 8 * r + b = 8 * s + k) := by
    intro r b hr hb
    by_cases e : r = s
    · subst e
      rw [cS] at hb
      by_cases e2 : b = k
      · exact Or.inl ⟨rfl, e2⟩
      · exact Or.inr ⟨by omega, by omega⟩
    · rw [cO r e] at hb
      have := kb r hr
      exact Or.inr ⟨hb, by omega⟩
  have new : ∀ r b, r < 24 → b < (gA T 11 r).toNatClampNeg → b < (upd (gA T 11) s (nI k + 1) r).toNatClampNeg ∧ ¬ 8 * r + b = 8 * s + k := by
    intro r b hr hb
    by_cases e : r = s
    · subst e
      rw [cS]
      exact ⟨by omega, by omega⟩
    · rw [cO r e]
      have := kb r hr
      exact ⟨hb, by omega⟩
  have zz : nI z = 0 ∨ nI z = 1 := by
    rcases hz with e | ⟨e, -⟩ <;> rw [e]
    · exact Or.inl rfl
    · exact Or.inr rfl
  refine ⟨?_, ?_, ?_, ?_⟩
  · intro d hd
    obtain ⟨u1, u2⟩ := r5 d hd
    refine ⟨u1, ?_⟩
    by_cases e : d = q
    · subst e
      right
      refine ⟨by rw [upd_e, if_pos rfl], Or.inr ⟨s, k, hs, by rw [cS]; omega, by rw [upd_e, if_pos rfl]⟩⟩
    · rw [upd_e, if_neg e]
      rcases u2 with ⟨c1, c2, c3⟩ | ⟨c1, c2⟩
      · refine Or.inl ⟨c1, c2, fun r b hr hb => ?_⟩
        rcases old r b (by omega) hb with ⟨e1, e2⟩ | ⟨e1, e2⟩
        · subst e1; subst e2
          rw [upd_e, if_pos rfl]
          exact fun e3 => e (nI_inj (by omega) (by omega) e3).symm
        · rw [upd_e, if_neg e2]
          exact c3 r b hr e1
      · refine Or.inr ⟨c1, c2.imp id (fun ⟨r, b, e1, e2, e3⟩ => ?_)⟩
        obtain ⟨f1, f2⟩ := new r b (by omega) e2
        exact ⟨r, b, e1, f1, by rw [upd_e, if_neg f2]; exact e3⟩
  · intro r hr
    obtain ⟨k2, g1, g2, g3, g4, g5⟩ := r7 r hr
    have inner : ∀ v : Nat, v < r → (∀ d, d < (gA T 11 v).toNatClampNeg → gA T 15 (8 * v + d) = 0) → (v = s → nI z = 0) → ∀ d, d < (upd (gA T 11) s (nI k + 1) v).toNatClampNeg → upd (gA T 15) (8 * s + k) (nI z) (8 * v + d) = 0 := by
      intro v hv hh hzz d hd
      rcases old v d (by omega) hd with ⟨e1, e2⟩ | ⟨e1, e2⟩
      · subst e1; subst e2
        rw [upd_e, if_pos rfl]
        exact hzz rfl
      · rw [upd_e, if_neg e2]
        exact hh d e1
    by_cases e : r = s
    · subst e
      have ek : k2 = k := nI_inj (by omega) (by omega) (g2.symm.trans ekc)
      subst ek
      refine ⟨k2 + 1, by omega, by rw [upd_e, if_pos rfl, nI_1], by rw [upd_e, if_pos rfl, nI_1], fun h => by omega, fun b hb => ?_⟩
      by_cases eb : b = k2
      · subst eb
        simp only [upd_e, if_true]
        refine ⟨trivial, trivial, trivial, ⟨q, hq, rfl⟩, ?_⟩
        rcases hz with e | ⟨e, v, f1, f2, f3, f4, -⟩
        · rw [e]; exact Or.inl rfl
        · rw [e]
          refine Or.inr ⟨rfl, v, f1, f2, f3, ?_⟩
          have := inner v f1 f4 (fun c => absurd c (by omega))
          rw [e] at this
          simpa only [upd_e] using this
      · obtain ⟨a1, a2, a3, a4, a5⟩ := g5 b (by omega)
        have ne : ¬ 8 * r + b = 8 * r + k2 := by omega
        simp only [upd_e (gA S 13), upd_e (gA S 14), upd_e (gA S 15), upd_e (gA T 12) _ _ (8 * r + b), upd_e (gA T 15) _ _ (8 * r + b), upd_e (gA T 13) _ _ (8 * r + b), if_neg ne]
        exact ⟨a1, a2, a3, a4, a5.imp id (fun ⟨d1, v, d2, d3, d4, d5⟩ => ⟨d1, v, d2, d3, d4, inner v d2 d5 (fun c => absurd c (by omega))⟩)⟩
    · refine ⟨k2, g1, by rw [upd_e, if_neg e]; exact g2, by rw [upd_e, if_neg e]; exact g3, g4, fun b hb => ?_⟩
      obtain ⟨a1, a2, a3, a4, a5⟩ := g5 b hb
      have ne : ¬ 8 * r + b = 8 * s + k := by omega
      simp only [upd_e (gA S 13), upd_e (gA S 14), upd_e (gA S 15), upd_e (gA T 12) _ _ (8 * r + b), upd_e (gA T 15) _ _ (8 * r + b), upd_e (gA T 13) _ _ (8 * r + b), if_neg ne]
      refine ⟨a1, a2, a3, a4, a5.imp id (fun ⟨d1, v, d2, d3, d4, d5⟩ => ⟨d1, v, d2, d3, d4, inner v d2 d5 (fun c => ?_)⟩)⟩
      rcases hz with e0 | ⟨e0, v', f1, f2, f3, f4, f5⟩
      · rw [e0]; rfl
      · exfalso
        have hrE : r < nE := by
          rcases Nat.lt_or_ge r nE with h | h
          · exact h
          · have := g4 h; omega
        exact f5 r b hrE (by rw [g3, nI_clamp (by omega)]; exact hb) (by rw [d1]; decide) (by rw [d3, c])
  · intro t ht
    have old' := r10 t ht
    rcases hw with ⟨e, e1, -⟩ | ⟨e, v, ev, hv, e1, -⟩
    · rw [e, e1]
      rcases old' with ⟨c1, c2⟩ | ⟨c1, r, b, c2, c3, c4, c5⟩
      · refine Or.inl ⟨c1, fun r b hr hb hn => ?_⟩
        rcases old r b (by omega) hb with ⟨g1, g2⟩ | ⟨g1, g2⟩
        · subst g1; subst g2
          rw [upd_e, if_pos rfl] at hn
          exact absurd rfl hn
        · rw [upd_e, if_neg g2] at hn ⊢
          exact c2 r b hr g1 hn
      · obtain ⟨f1, f2⟩ := new r b (by omega) c3
        exact Or.inr ⟨c1, r, b, c2, f1, by rw [upd_e, if_neg f2]; exact c4, by rw [upd_e, if_neg f2]; exact c5⟩
    · rw [e, e1, ev, upd_e]
      by_cases et : t = v
      · rw [if_pos et]
        refine Or.inr ⟨rfl, s, k, hs, by rw [cS]; omega, ?_, ?_⟩
        · rw [upd_e, if_pos rfl]; decide
        · rw [upd_e, if_pos rfl, et]
      · rw [if_neg et]
        rcases old' with ⟨c1, c2⟩ | ⟨c1, r, b, c2, c3, c4, c5⟩
        · refine Or.inl ⟨c1, fun r b hr hb hn => ?_⟩
          rcases old r b (by omega) hb with ⟨g1, g2⟩ | ⟨g1, g2⟩
          · subst g1; subst g2
            rw [upd_e, if_pos rfl]
            exact fun c => et (nI_inj (by omega) (by omega) c).symm
          · rw [upd_e, if_neg g2] at hn ⊢
            exact c2 r b hr g1 hn
        · obtain ⟨f1, f2⟩ := new r b (by omega) c3
          exact Or.inr ⟨c1, r, b, c2, f1, by rw [upd_e, if_neg f2]; exact c4, by rw [upd_e, if_neg f2]; exact c5⟩
  · intro t ht
    have old' := r11 t ht
    rcases hw with ⟨e, -, e1⟩ | ⟨e, v, ev, hv, -, e1⟩
    · rw [e, e1]
      rcases old' with ⟨c1, c2⟩ | ⟨c1, b, c3, c4⟩
      · refine Or.inl ⟨c1, fun b hb => ?_⟩
        rcases old t b ht hb with ⟨g1, g2⟩ | ⟨g1, g2⟩
        · subst g1; subst g2
          rw [upd_e, if_pos rfl]; rfl
        · rw [upd_e, if_neg g2]
          exact c2 b g1
      · obtain ⟨f1, f2⟩ := new t b ht c3
        exact Or.inr ⟨c1, b, f1, by rw [upd_e, if_neg f2]; exact c4⟩
    · rw [e, e1, upd_e]
      by_cases et : t = s
      · rw [if_pos et]
        refine Or.inr ⟨rfl, k, ?_, ?_⟩
        · rw [et, cS]; omega
        · rw [et, upd_e, if_pos rfl]; decide
      · rw [if_neg et]
        rcases old' with ⟨c1, c2⟩ | ⟨c1, b, c3, c4⟩
        · refine Or.inl ⟨c1, fun b hb => ?_⟩
          rcases old t b ht hb with ⟨g1, g2⟩ | ⟨g1, g2⟩
          · exact absurd g1 et
          · rw [upd_e, if_neg g2]
            exact c2 b g1
        · obtain ⟨f1, f2⟩ := new t b ht c3
          exact Or.inr ⟨c1, b, f1, by rw [upd_e, if_neg f2]; exact c4⟩
