/-! CHOOSING, the outer SELECT -/
/-- what a BRANCH gives, in the reference -/
def gvM (c s : Nat) (T' : StM) (i : Nat) : Option StM := if gA T' 15 (8 * s + i) = 0 then some (sI (sI T' 11 1) 12 (gA T' 13 (8 * s + i))) else m_MX_chooseInner (sI (sI T' 11 1) 12 (gA T' 13 (8 * s + i))) (gA T' 13 (8 * s + i)) (nI c)
theorem brCM {S : StC} {T T' : StM} {nS nP nK nQ nT nE nN s c k i : Nat} {x g0 : Int64} (h : RelB S T nS nP nK nQ nT nE nN) (hs : s < nE) (hc : c ≤ 60) (hr : RowX T nS nP c x) (ekm : gA T 11 s = nI k) (hi : i < k) (hk : k ≤ 8) (j : JM T T') (r : RCho g0 (gI T' 7) (gI T' 8) (gI T' 9) (gI T' 10)) : ∃ g T'', m_CX_givenBy_1 S (nI (8 * s + i)) x 0 = some g ∧ gvM c s T' i = some T'' ∧ JM T T'' ∧ (∀ j, 7 ≤ j → j < 11 → gI T'' j = gI T' j) ∧ RC3 g (gI T'' 11) (gI T'' 12) (gI T'' 13) (gI T'' 14) := by
  have hE : nE ≤ 24 := h.2.2.2.2.2.1.1
  obtain ⟨k', hk', ekc', ekm', hkb⟩ := selOf h (show s < 24 by omega)
  have : k' = k := nI_inj (by omega) (by omega) (ekm'.symm.trans ekm)
  subst this
  obtain ⟨-, e14, e15, o⟩ := hkb i hi
  have j2 : JM T (sI (sI T' 11 1) 12 (gA T 13 (8 * s + i))) := J_sI (J_sI j 11 _ (by omega)) 12 _ (by omega)
  have keep : ∀ l, 7 ≤ l → l < 11 → gI (sI (sI T' 11 1) 12 (gA T 13 (8 * s + i))) l = gI T' l := fun l l1 l2 => by
    rw [gI_sI, if_neg (by omega), gI_sI, if_neg (by omega)]
  unfold m_CX_givenBy_1 gvM
  rw [if_pos (inb_nI (show 8 * s + i < 192 by omega) (by decide)), nI_clamp (show 8 * s + i < 2 ^ 31 by omega), e14, e15, j.1, j.1]
  rcases o with o | ⟨o, v, hv, ev, hnn⟩
  · rw [if_pos o, if_pos o]
    exact ⟨ofV (gA T 13 (8 * s + i)), _, rfl, rfl, j2, keep, Or.inr (Or.inl ⟨rfl, rfl⟩)⟩
  · have o' : ¬ gA T 15 (8 * s + i) = 0 := by rw [o]; exact one0
    rw [if_neg o', if_neg o', if_pos (by decide), ev]
    rw [ev] at j2 keep
    obtain ⟨g, T'', f1, f2, f3, f4, f5⟩ := innerCM (g0 := g0) h (show v < nE by omega) hc hr hnn j2 (by
      rw [keep 7 (by omega) (by omega), keep 8 (by omega) (by omega), keep 9 (by omega) (by omega), keep 10 (by omega) (by omega)]
      exact r)
    refine ⟨g, T'', ?_, f2, f3, fun l l1 l2 => (f4 l l1 l2).trans (keep l l1 l2), f5⟩
    rw [show (0 : Int32) + 1 = 1 from rfl, f1, Option.bind_some]
section
variable {S : StC} {T : StM} {s k c : Nat} {x : Int64} {z : Int32}
theorem ouM_step {T' : StM} (j : JM T T') (hs : s < 24) (hk : k ≤ 8) (ekm : gA T 11 s = nI k) {i : Nat} (hi : i < k) (n : Nat) (x4 : Int32) : L_MX_chooseAll_54 (nI s) (nI c) z (n + 1) T' x4 0 (nI i) = if bt z i = true then (gvM c s T' i).bind fun q5 => if x4 = (-1) then L_MX_chooseAll_54 (nI s) (nI c) z n (sI (sI (sI (sI q5 7 (gI q5 11)) 8 (gI q5 12)) 9 (gI q5 13)) 10 (gI q5 14)) (nI i) 0 (nI (i + 1)) else if (gI q5 11) = (gI q5 7) then if (gI q5 7) = 1 then if (gI q5 12) = (gI q5 8) then L_MX_chooseAll_54 (nI s) (nI c) z n q5 x4 0 (nI (i + 1)) else L_MX_chooseAll_54 (nI s) (nI c) z n (sI (sI (sI q5 7 2) 9 x4) 10 (nI i)) x4 1 (nI (i + 1)) else L_MX_chooseAll_54 (nI s) (nI c) z n q5 x4 0 (nI (i + 1)) else L_MX_chooseAll_54 (nI s) (nI c) z n (sI (sI (sI q5 7 2) 9 x4) 10 (nI i)) x4 1 (nI (i + 1)) else L_MX_chooseAll_54 (nI s) (nI c) z n T' x4 0 (nI (i + 1)) := by
  rw [L_MX_chooseAll_54, if_pos (inb_nI hs (by decide)), nI_clamp (show s < 2 ^ 31 by omega), j.1, ekm, if_neg (nI_ge hi (by omega)), if_pos zero0, ixm8, if_pos (inb_nI (show 8 * s + i < 192 by omega) (by decide)), nI_clamp (show 8 * s + i < 2 ^ 31 by omega), nI_1]
  by_cases c1 : bt z i = true
  · rw [if_pos c1, if_pos ((bitM1 z (show i < 31 by omega)).mpr c1)]
    unfold gvM
    by_cases c2 : gA T' 15 (8 * s + i) = 0
    · rw [if_pos c2, if_pos c2, Option.bind_some]
      rfl
    · rw [if_neg c2, if_neg c2]
  · rw [if_neg c1, if_neg (fun o => c1 ((bitM1 z (show i < 31 by omega)).mp o))]
theorem ouM_end {T' : StM} (j : JM T T') (hs : s < 24) (hk : k ≤ 8) (ekm : gA T 11 s = nI k) (n : Nat) (x4 x5 : Int32) : L_MX_chooseAll_54 (nI s) (nI c) z (n + 1) T' x4 x5 (nI k) = some T' := by
  rw [L_MX_chooseAll_54, if_pos (inb_nI hs (by decide)), nI_clamp (show s < 2 ^ 31 by omega), j.1, ekm, if_pos (nI_le (by omega) (by omega))]
theorem ouM_done {T' : StM} (j : JM T T') (hs : s < 24) (hk : k ≤ 8) (ekm : gA T 11 s = nI k) (n : Nat) (hn : 0 < n) (x4 : Int32) {i : Nat} (hi : i ≤ k) : L_MX_chooseAll_54 (nI s) (nI c) z n T' x4 1 (nI i) = some T' := by
  obtain ⟨n, rfl⟩ : ∃ k, n = k + 1 := ⟨n - 1, by omega⟩
  by_cases e : i = k
  · rw [e]; exact ouM_end j hs hk ekm n x4 1
  · rw [L_MX_chooseAll_54, if_pos (inb_nI hs (by decide)), nI_clamp (show s < 2 ^ 31 by omega), j.1, ekm, if_neg (nI_ge (show i < k by omega) (by omega)), if_neg one0]
theorem ouM_still {T' : StM} (j : JM T T') (hs : s < 24) (hk : k ≤ 8) (ekm : gA T 11 s = nI k) : ∀ (m i n : Nat), m = k - i → i ≤ k → m < n → (∀ b, i ≤ b → b < k → ¬ bt z b = true) → L_MX_chooseAll_54 (nI s) (nI c) z n T' (-1) 0 (nI i) = some T' := by
  intro m
  induction m with
  | zero =>
    intro i n hm hi hn _
    obtain ⟨n, rfl⟩ : ∃ k, n = k + 1 := ⟨n - 1, by omega⟩
    rw [show i = k by omega]
    exact ouM_end j hs hk ekm n _ _
  | succ m ih =>
    intro i n hm hi hn o
    obtain ⟨n, rfl⟩ : ∃ k, n = k + 1 := ⟨n - 1, by omega⟩
    rw [ouM_step j hs hk ekm (show i < k by omega), if_neg (o i (Nat.le_refl _) (by omega))]
    exact ih (i + 1) n (by omega) (by omega) (by omega) (fun b h1 h2 => o b (by omega) h2)
theorem ouC_step (hs : s < 24) (hk : k ≤ 8) (ekc : gA S 12 s = nI k) {i : Nat} (hi : i < k) (n : Nat) (fi : Int32) (g : Int64) : L_CX_choosing_1_39 S (nI s) x 0 z (n + 1) fi g (nI i) = if bt z i = true then (m_CX_givenBy_1 S (nI (8 * s + i)) x 0).bind fun q7 => if fi = -1 then L_CX_choosing_1_39 S (nI s) x 0 z n (nI i) q7 (nI (i + 1)) else (m_CChoices_areAlike S g q7).bind fun q8 => if q8 = 0 then (m_CChoices_ofClash S fi (nI i)).bind fun q9 => some (.inr q9) else L_CX_choosing_1_39 S (nI s) x 0 z n fi g (nI (i + 1)) else L_CX_choosing_1_39 S (nI s) x 0 z n fi g (nI (i + 1)) := by
  rw [L_CX_choosing_1_39, if_pos (inb_nI hs (by decide)), nI_clamp (show s < 2 ^ 31 by omega), ekc, if_neg (nI_ge hi (by omega)), bitC S z (show i < 32 by omega), Option.bind_some, m_CSelects_place, Option.bind_some, ixc8, nI_1]
  by_cases c : bt z i = true
  · rw [if_pos c, b2_t c, if_neg one0]
  · rw [if_neg c, b2_f c, if_pos rfl]
theorem ouC_end (hs : s < 24) (hk : k ≤ 8) (ekc : gA S 12 s = nI k) (n : Nat) (fi : Int32) (g : Int64) : L_CX_choosing_1_39 S (nI s) x 0 z (n + 1) fi g (nI k) = some (.inl g) := by
  rw [L_CX_choosing_1_39, if_pos (inb_nI hs (by decide)), nI_clamp (show s < 2 ^ 31 by omega), ekc, if_pos (nI_le (by omega) (by omega))]
variable {nS nP nK nQ nT nE nN : Nat}
theorem ouB (h : RelB S T nS nP nK nQ nT nE nN) (hs : s < nE) (hc : c ≤ 60) (hr : RowX T nS nP c x) (hk : k ≤ 8) (ekc : gA S 12 s = nI k) (ekm : gA T 11 s = nI k) : ∀ (m i n : Nat) (T' : StM) (a : Nat) (g : Int64), JM T T' → a < 8 → RC3 g (gI T' 7) (gI T' 8) (gI T' 9) (gI T' 10) → m = k - i → i ≤ k → m < n → ∃ T'' g', L_MX_chooseAll_54 (nI s) (nI c) z n T' (nI a) 0 (nI i) = some T'' ∧ JM T T'' ∧ fin9 (L_CX_choosing_1_39 S (nI s) x 0 z n (nI a) g (nI i)) = some g' ∧ RC3 g' (gI T'' 7) (gI T'' 8) (gI T'' 9) (gI T'' 10) := by
  have hE : nE ≤ 24 := h.2.2.2.2.2.1.1
  have hs24 : s < 24 := by omega
  intro m
  induction m with
  | zero =>
    intro i n T' a g j ha hg hm hi hn
    obtain ⟨n, rfl⟩ : ∃ k, n = k + 1 := ⟨n - 1, by omega⟩
    rw [show i = k by omega]
    exact ⟨T', g, ouM_end j hs24 hk ekm n _ _, j, by rw [ouC_end hs24 hk ekc, fin_l], hg⟩
  | succ m ih =>
    intro i n T' a g j ha hg hm hi hn
    obtain ⟨n, rfl⟩ : ∃ k, n = k + 1 := ⟨n - 1, by omega⟩
    have hik : i < k := by omega
    rw [ouM_step j hs24 hk ekm hik, ouC_step hs24 hk ekc hik]
    by_cases c0 : bt z i = true
    · obtain ⟨g1, T1, f1, f2, f3, f4, f5⟩ := brCM h hs hc hr ekm hik hk j (rc3_cho hg)
      have hg1 : RC3 g (gI T1 7) (gI T1 8) (gI T1 9) (gI T1 10) := by
        rw [f4 7 (by omega) (by omega), f4 8 (by omega) (by omega), f4 9 (by omega) (by omega), f4 10 (by omega) (by omega)]
        exact hg
      have clash : ∃ T'' g', L_MX_chooseAll_54 (nI s) (nI c) z n (sI (sI (sI T1 7 2) 9 (nI a)) 10 (nI i)) (nI a) 1 (nI (i + 1)) = some T'' ∧ JM T T'' ∧ fin9 ((m_CChoices_ofClash S (nI a) (nI i)).bind fun q9 => some (.inr q9)) = some g' ∧ RC3 g' (gI T'' 7) (gI T'' 8) (gI T'' 9) (gI T'' 10) := by
        have j2 : JM T (sI (sI (sI T1 7 2) 9 (nI a)) 10 (nI i)) := J_sI (J_sI (J_sI f3 7 _ (by omega)) 9 _ (by omega)) 10 _ (by omega)
        exact ⟨_, ofC a i, ouM_done j2 hs24 hk ekm n (by omega) _ (show i + 1 ≤ k by omega), j2, rfl, Or.inr (Or.inr ⟨rfl, a, i, ha, by omega, rfl, rfl, rfl⟩)⟩
      have more := ih (i + 1) n T1 a g f3 ha hg1 (by omega) (by omega) (by omega)
      rw [if_pos c0, if_pos c0, f1, f2, Option.bind_some, Option.bind_some, if_neg (nI_ne_m1 (by omega)), if_neg (nI_ne_m1 (by omega)), rc3_like S hg1 f5, Option.bind_some]
      by_cases e1 : gI T1 11 = gI T1 7
      · rw [if_pos e1]
        by_cases e2 : gI T1 7 = 1
        · rw [if_pos e2]
          by_cases e3 : gI T1 12 = gI T1 8
          · rw [if_pos e3, b2_t ⟨e1, fun _ => e3⟩, if_neg one0]
            exact more
          · rw [if_neg e3, b2_f (fun o => e3 (o.2 e2)), if_pos rfl]
            exact clash
        · rw [if_neg e2, b2_t ⟨e1, fun o => absurd o e2⟩, if_neg one0]
          exact more
      · rw [if_neg e1, b2_f (fun o => e1 o.1), if_pos rfl]
        exact clash
    · rw [if_neg c0, if_neg c0]
      exact ih (i + 1) n T' a g j ha hg (by omega) (by omega) (by omega)
theorem ouA (h : RelB S T nS nP nK nQ nT nE nN) (hs : s < nE) (hc : c ≤ 60) (hr : RowX T nS nP c x) (hk : k ≤ 8) (ekc : gA S 12 s = nI k) (ekm : gA T 11 s = nI k) (g : Int64) : ∀ (m i n : Nat) (T' : StM) (g0 : Int64), JM T T' → RCho g0 (gI T' 7) (gI T' 8) (gI T' 9) (gI T' 10) → (∃ b, i ≤ b ∧ b < k ∧ bt z b = true) → m = k - i → i ≤ k → m < n → ∃ T'' g', L_MX_chooseAll_54 (nI s) (nI c) z n T' (-1) 0 (nI i) = some T'' ∧ JM T T'' ∧ fin9 (L_CX_choosing_1_39 S (nI s) x 0 z n (-1) g (nI i)) = some g' ∧ RC3 g' (gI T'' 7) (gI T'' 8) (gI T'' 9) (gI T'' 10) := by
  have hE : nE ≤ 24 := h.2.2.2.2.2.1.1
  have hs24 : s < 24 := by omega
  intro m
  induction m with
  | zero =>
    rintro i n T' g0 j hg ⟨b, h1, h2, h3⟩ hm hi hn
    omega
  | succ m ih =>
    rintro i n T' g0 j hg ⟨b, h1, h2, h3⟩ hm hi hn
    obtain ⟨n, rfl⟩ : ∃ k, n = k + 1 := ⟨n - 1, by omega⟩
    have hik : i < k := by omega
    rw [ouM_step j hs24 hk ekm hik, ouC_step hs24 hk ekc hik]
    by_cases c0 : bt z i = true
    · obtain ⟨g1, T1, f1, f2, f3, f4, f5⟩ := brCM h hs hc hr ekm hik hk j hg
      have j2 : JM T (sI (sI (sI (sI T1 7 (gI T1 11)) 8 (gI T1 12)) 9 (gI T1 13)) 10 (gI T1 14)) := J_sI (J_sI (J_sI (J_sI f3 7 _ (by omega)) 8 _ (by omega)) 9 _ (by omega)) 10 _ (by omega)
      rw [if_pos c0, if_pos c0, f1, f2, Option.bind_some, Option.bind_some, if_pos rfl, if_pos rfl]
      exact ouB h hs hc hr hk ekc ekm m (i + 1) n _ i g1 j2 (by omega) f5 (by omega) (by omega) (by omega)
    · rw [if_neg c0, if_neg c0]
      refine ih (i + 1) n T' g0 j hg ⟨b, ?_, h2, h3⟩ (by omega) (by omega) (by omega)
      by_cases e : b = i
      · rw [e] at h3; exact absurd h3 c0
      · omega
end
theorem chooseCM {S : StC} {T : StM} {nS nP nK nQ nT nE nN s c : Nat} {x : Int64} (h : RelB S T nS nP nK nQ nT nE nN) (hs : s < nE) (hc : c ≤ 60) (hr : RowX T nS nP c x) : ∃ g T'', m_CX_choosing_1 S (nI s) x 0 = some g ∧ m_MX_chooseAll T (nI s) (nI c) = some T'' ∧ JM T T'' ∧ RC3 g (gI T'' 7) (gI T'' 8) (gI T'' 9) (gI T'' 10) := by
  have hE : nE ≤ 24 := h.2.2.2.2.2.1.1
  have hs24 : s < 24 := by omega
  obtain ⟨k, hk, ekc, ekm, hkb⟩ := selOf h hs24
  have ek : (gA T 11 s).toNatClampNeg = k := by rw [ekm, nI_clamp (by omega)]
  have r14 : RCho (gL S 0) (gI T 7) (gI T 8) (gI T 9) (gI T 10) := by
    obtain ⟨-, -, -, -, -, -, -, -, -, -, -, -, -, -, -, -, -, -, -, r14⟩ := h
    exact r14
  obtain ⟨y, z, e1, e2, e3, e4⟩ := bestBoth h hs24 hc hr (J_rf T) r14
  have main : ∀ (w o : Int32), RC3 (gB S 1 s) w o (-1) (-1) → ∃ g T'', m_CX_choosing_1 S (nI s) x 0 = some g ∧ L_MX_chooseAll_54 (nI s) (nI c) z 100 (sI (sI (sI (sI T 7 w) 8 o) 9 (-1)) 10 (-1)) (-1) 0 0 = some T'' ∧ JM T T'' ∧ RC3 g (gI T'' 7) (gI T'' 8) (gI T'' 9) (gI T'' 10) := fun w o hz => by
    have j2 : JM T (sI (sI (sI (sI T 7 w) 8 o) 9 (-1)) 10 (-1)) := J_sI (J_sI (J_sI (J_sI (J_rf T) 7 _ (by omega)) 8 _ (by omega)) 9 _ (by omega)) 10 _ (by omega)
    unfold m_CX_choosing_1
    rw [e1, Option.bind_some, e2, Option.bind_some]
    by_cases c0 : z = 0
    · rw [if_pos c0, if_pos (inb_nI hs24 (by decide)), nI_clamp (show s < 2 ^ 31 by omega)]
      refine ⟨_, _, rfl, ouM_still j2 hs24 hk ekm k 0 100 (by omega) (by omega) (by omega) (fun b _ _ e => ?_), j2, hz⟩
      rw [c0, b_0] at e
      cases e
    · rw [if_neg c0]
      obtain ⟨b, b1, b2'⟩ := bit_some c0
      have b3 : b < k := by
        have := ((e4 b b1).mp b2').1
        rw [ek] at this
        exact this
      obtain ⟨T'', g', f1, f2, f4, f5⟩ := ouA h hs hc hr hk ekc ekm (z := z) 0 k 0 100 _ (gB S 1 s) j2 (rc3_cho hz) ⟨b, Nat.zero_le _, b3, b2'⟩ (by omega) (by omega) (by omega)
      exact ⟨g', T'', f4, f1, f2, f5⟩
  unfold m_MX_chooseAll
  rw [e3, Option.bind_some, if_pos (inb_nI hs24 (by decide)), nI_clamp (show s < 2 ^ 31 by omega)]
  rcases selO h hs with ⟨o1, o2⟩ | ⟨o1, o2⟩
  · obtain ⟨g, T'', f1, f2, f3⟩ := main 0 (gA T 14 s) (Or.inl ⟨rfl, o2⟩)
    exact ⟨g, T'', f1, by rw [if_pos o1, f2, Option.bind_some], f3⟩
  · obtain ⟨g, T'', f1, f2, f3⟩ := main 1 (gA T 14 s) (Or.inr (Or.inl ⟨rfl, o2⟩))
    exact ⟨g, T'', f1, by rw [if_neg (by rw [o1]; exact one0), f2, Option.bind_some], f3⟩
theorem op16 : Op16 Rel := by
  intro S T a1 a2 h
  have h0 := h
  obtain ⟨nS, nP, nK, nQ, nT, nE, nN, nR, hall⟩ := h
  obtain ⟨hb, hp⟩ := rel_B hall
  obtain ⟨hS, hP, ⟨hK, hKc, hKm⟩, hQ, hT, ⟨hE, hEc, hEm⟩, -⟩ := id hb
  rcases rng a1 (n := nE) (by omega) with ⟨s, hs, rfl⟩ | hno
  · have ts := thr_yes hs (show nE < 2 ^ 31 by omega)
    rcases rng a2 (n := nK) (by omega) with ⟨c, hc, rfl⟩ | hno
    · have tc := thr_yes hc (show nK < 2 ^ 31 by omega)
      obtain ⟨g, T'', f1, f2, f3, f4⟩ := chooseCM hb hs (show c ≤ 60 by omega) (row_of hb hc)
      refine ⟨gI T'' 7, sL S 0 g, T'', ?_, ?_, rel_N (relB_J hb f3 (rc3_cho f4)) (relP_J hp f3)⟩
      · simp only [m_CX_choose, cE_e, hEc, ts, cK_e, hKc, tc, Option.bind_some, if_neg one0, inb_nI (show c < 60 by omega) (show (60 : Nat) < 2 ^ 31 by omega), if_true, nI_clamp (show c < 2 ^ 31 by omega), f1, kdC_e, rc3_kd f4]
      · simp only [m_MX_choose, in_e, hEm, ts, hKm, tc, Option.bind_some, if_neg one0, f2]
    · refine ⟨-1, S, T, ?_, ?_, h0⟩
      · simp only [m_CX_choose, cE_e, hEc, ts, cK_e, hKc, thr_no hno, Option.bind_some, if_neg one0, if_true]
      · simp only [m_MX_choose, in_e, hEm, ts, hKm, thr_no hno, Option.bind_some, if_neg one0, if_true]
  · refine ⟨-1, S, T, ?_, ?_, h0⟩
    · simp only [m_CX_choose, cE_e, hEc, thr_no hno, Option.bind_some, if_true]
    · simp only [m_MX_choose, in_e, hEm, thr_no hno, Option.bind_some, if_true]
