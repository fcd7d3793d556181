/-! CHOOSING -/
def RC3 (c : Int64) (k v f g : Int32) : Prop := (k = 0 ∧ c = 0) ∨ (k = 1 ∧ c = ofV v) ∨ (k = 2 ∧ ∃ a b : Nat, a < 8 ∧ b < 8 ∧ f = nI a ∧ g = nI b ∧ c = ofC a b)
theorem rc3_cho {c : Int64} {k v f g : Int32} (h : RC3 c k v f g) : RCho c k v f g := Or.inr h
theorem rc3_kd {c : Int64} {k v f g : Int32} (h : RC3 c k v f g) : kdOf c = k := by
  rcases h with ⟨h1, h2⟩ | ⟨h1, h2⟩ | ⟨h1, a, b, ha, hb, -, -, h2⟩
  · rw [h2, kd_0, h1]
  · rw [h2, kd_V, h1]
  · rw [h2, kd_C ha hb, h1]
theorem rc3_like (S : StC) {c c' : Int64} {k v f g k' v' f' g' : Int32} (h : RC3 c k v f g) (h' : RC3 c' k' v' f' g') : m_CChoices_areAlike S c c' = some (b2 (k' = k ∧ (k = 1 → v' = v))) := by
  unfold m_CChoices_areAlike
  rw [kdC_e, Option.bind_some, kdC_e, Option.bind_some, Option.bind_some, rc3_kd h, rc3_kd h']
  by_cases e : k = k'
  · rw [if_pos e]
    by_cases e1 : k = 1
    · rw [if_pos e1]
      have f1 : c = ofV v := by
        rcases h with ⟨h1, _⟩ | ⟨_, h2⟩ | ⟨h1, _⟩
        · rw [h1] at e1; exact absurd e1 zero1
        · exact h2
        · rw [h1] at e1; exact absurd e1 two1
      have f2 : c' = ofV v' := by
        rw [e] at e1
        rcases h' with ⟨h1, _⟩ | ⟨_, h2⟩ | ⟨h1, _⟩
        · rw [h1] at e1; exact absurd e1 zero1
        · exact h2
        · rw [h1] at e1; exact absurd e1 two1
      by_cases w : v' = v
      · rw [if_pos ((lg_cmp_eq _ _).mpr (by rw [f1, f2, w])), b2_t ⟨e.symm, fun _ => w⟩]
      · rw [if_neg, b2_f (fun o => w (o.2 e1))]
        intro o
        have o' := (lg_cmp_eq _ _).mp o
        rw [f1, f2] at o'
        have := congrArg Int64.toInt32 o'
        rw [low_V, low_V] at this
        exact w this.symm
    · rw [if_neg e1, b2_t ⟨e.symm, fun o => absurd o e1⟩]
  · rw [if_neg e, b2_f (fun o => e o.1.symm)]
/-- only what was chosen has changed -/
def JM (T T' : StM) : Prop := (∀ k, gA T' k = gA T k) ∧ ∀ k, (k < 7 ∨ k = 15) → gI T' k = gI T k
theorem J_rf (T : StM) : JM T T := ⟨fun _ => rfl, fun _ _ => rfl⟩
theorem J_sI {T T' : StM} (h : JM T T') (k : Nat) (v : Int32) (hk : 7 ≤ k ∧ k < 15) : JM T (sI T' k v) := ⟨fun j => by rw [gA_sI]; exact h.1 j, fun j hj => by rw [gI_sI, if_neg (by omega)]; exact h.2 j hj⟩
theorem relB_J {S : StC} {T T' : StM} {nS nP nK nQ nT nE nN : Nat} {g : Int64} (h : RelB S T nS nP nK nQ nT nE nN) (j : JM T T') (r : RCho g (gI T' 7) (gI T' 8) (gI T' 9) (gI T' 10)) : RelB (sL S 0 g) T' nS nP nK nQ nT nE nN := by
  obtain ⟨hS, hP, hK, hQ, hT, hE, hN, r1, r2, r3, r4, r5, r6, r7, r8, r9, r10, r11, r12, r14⟩ := h
  unfold RelB
  rw [j.2 0 (by omega), j.2 1 (by omega), j.2 2 (by omega), j.2 3 (by omega), j.2 4 (by omega), j.2 5 (by omega), j.2 6 (by omega)]
  simp only [j.1, gI_sL, gA_sL, gB_sL]
  exact ⟨hS, hP, hK, hQ, hT, hE, hN, r1, r2, r3, r4, r5, r6, r7, r8, r9, r10, r11, r12, r⟩
theorem relP_J {S : StC} {T T' : StM} {nR : Nat} {g : Int64} (h : RelP S T nR) (j : JM T T') : RelP (sL S 0 g) T' nR := by
  unfold RelP
  rw [j.2 15 (by omega)]
  simp only [j.1, gI_sL, gA_sL]
  exact h
theorem row_J {T T' : StM} {nS nP c : Nat} {x : Int64} (h : RowX T nS nP c x) (j : JM T T') : RowX T' nS nP c x := by
  unfold RowX
  simp only [j.1]
  exact h
theorem best_J {T T' : StM} (j : JM T T') (nS c s b : Nat) : bestT nS T' c s b ↔ bestT nS T c s b := by
  unfold bestT hldT hasT cdB okA abV
  simp only [j.1]
theorem bestBoth {S : StC} {T T' : StM} {nS nP nK nQ nT nE nN s c : Nat} {x g : Int64} (h : RelB S T nS nP nK nQ nT nE nN) (hs : s < 24) (hc : c ≤ 60) (hr : RowX T nS nP c x) (j : JM T T') (r : RCho g (gI T' 7) (gI T' 8) (gI T' 9) (gI T' 10)) : ∃ y z, m_CX_holdingBranches S (nI s) x = some y ∧ m_CX_mostSpecialBranches S (nI s) y = some z ∧ m_MX_mostSpecial T' (nI s) (nI c) = some z ∧ Rep z (bestT nS T c s) := by
  obtain ⟨y, z, e1, e2, e3⟩ := bestC h hs hr
  obtain ⟨z', f1, f2⟩ := bestM (relB_J h j r) hs hc (row_J hr j)
  have : z' = z := rep_ext f2 e3 (fun b _ => best_J j nS c s b)
  exact ⟨y, z, e1, e2, by rw [f1, this], e3⟩
theorem bit_some {z : Int32} (h : ¬ z = 0) : ∃ b, b < 32 ∧ bt z b = true := by
  apply Classical.byContradiction
  intro o
  apply h
  apply b_ext
  intro i hi
  rw [b_0]
  cases hb : bt z i with
  | false => rfl
  | true => exact absurd ⟨i, hi, hb⟩ o
/-- what a program of the class ends a loop with -/
def fin9 (o : Option (Int64 ⊕ Int64)) : Option Int64 := o.bind fun o => exK o fun y => some y
theorem fin_l (g : Int64) : fin9 (some (.inl g)) = some g := rfl
theorem fin_r (g : Int64) : fin9 (some (.inr g)) = some g := rfl
section
variable {S : StC} {T : StM} {s k : Nat} {x : Int64} {z : Int32}
theorem inM_step {T' : StM} (j : JM T T') (hs : s < 24) (hk : k ≤ 8) (ekm : gA T 11 s = nI k) {i : Nat} (hi : i < k) (n : Nat) : L_MX_chooseInner_48 (nI s) z (n + 1) T' (nI i) = if bt z i = true then if gI T' 11 = 2 then L_MX_chooseInner_48 (nI s) z n T' (nI (i + 1)) else if gI T' 13 = -1 then L_MX_chooseInner_48 (nI s) z n (sI (sI (sI T' 13 (nI i)) 11 1) 12 (gA T 13 (8 * s + i))) (nI (i + 1)) else if gA T 13 (8 * s + i) = gI T' 12 then L_MX_chooseInner_48 (nI s) z n T' (nI (i + 1)) else L_MX_chooseInner_48 (nI s) z n (sI (sI T' 14 (nI i)) 11 2) (nI (i + 1)) else L_MX_chooseInner_48 (nI s) z n T' (nI (i + 1)) := by
  rw [L_MX_chooseInner_48, if_pos (inb_nI hs (by decide)), nI_clamp (show s < 2 ^ 31 by omega), j.1, ekm, if_neg (nI_ge hi (by omega)), ixm8, if_pos (inb_nI (show 8 * s + i < 192 by omega) (by decide)), nI_clamp (show 8 * s + i < 2 ^ 31 by omega), j.1, nI_1]
  by_cases c : bt z i = true
  · rw [if_pos c, if_pos ((bitM1 z (show i < 31 by omega)).mpr c)]
  · rw [if_neg c, if_neg (fun o => c ((bitM1 z (show i < 31 by omega)).mp o))]
theorem inM_end {T' : StM} (j : JM T T') (hs : s < 24) (hk : k ≤ 8) (ekm : gA T 11 s = nI k) (n : Nat) : L_MX_chooseInner_48 (nI s) z (n + 1) T' (nI k) = some T' := by
  rw [L_MX_chooseInner_48, if_pos (inb_nI hs (by decide)), nI_clamp (show s < 2 ^ 31 by omega), j.1, ekm, if_pos (nI_le (by omega) (by omega))]
theorem inM_still {T' : StM} (j : JM T T') (hs : s < 24) (hk : k ≤ 8) (ekm : gA T 11 s = nI k) : ∀ (m i n : Nat), m = k - i → i ≤ k → m < n → (gI T' 11 = 2 ∨ ∀ b, i ≤ b → b < k → ¬ bt z b = true) → L_MX_chooseInner_48 (nI s) z n T' (nI i) = some T' := by
  intro m
  induction m with
  | zero =>
    intro i n hm hi hn _
    obtain ⟨n, rfl⟩ : ∃ k, n = k + 1 := ⟨n - 1, by omega⟩
    rw [show i = k by omega]
    exact inM_end j hs hk ekm n
  | succ m ih =>
    intro i n hm hi hn o
    obtain ⟨n, rfl⟩ : ∃ k, n = k + 1 := ⟨n - 1, by omega⟩
    have g := ih (i + 1) n (by omega) (by omega) (by omega) (o.imp id (fun o b h1 h2 => o b (by omega) h2))
    rw [inM_step j hs hk ekm (show i < k by omega)]
    rcases o with o | o
    · rw [if_pos o, g]
      by_cases c : bt z i = true
      · rw [if_pos c]
      · rw [if_neg c]
    · rw [if_neg (o i (Nat.le_refl _) (by omega)), g]
theorem inC_step (hs : s < 24) (hk : k ≤ 8) (ekc : gA S 12 s = nI k) {i : Nat} (hi : i < k) (h14 : gA S 14 (8 * s + i) = 0) (h15 : gA S 15 (8 * s + i) = gA T 13 (8 * s + i)) (n : Nat) (fi : Int32) (g : Int64) : L_CX_choosing_0_39 S (nI s) x 1 z (n + 1) fi g (nI i) = if bt z i = true then if fi = -1 then L_CX_choosing_0_39 S (nI s) x 1 z n (nI i) (ofV (gA T 13 (8 * s + i))) (nI (i + 1)) else (m_CChoices_areAlike S g (ofV (gA T 13 (8 * s + i)))).bind fun q8 => if q8 = 0 then (m_CChoices_ofClash S fi (nI i)).bind fun q9 => some (.inr q9) else L_CX_choosing_0_39 S (nI s) x 1 z n fi g (nI (i + 1)) else L_CX_choosing_0_39 S (nI s) x 1 z n fi g (nI (i + 1)) := by
  have hg : m_CX_givenBy_0 S (nI (8 * s + i)) x 1 = some (ofV (gA T 13 (8 * s + i))) := by
    unfold m_CX_givenBy_0
    rw [if_pos (inb_nI (show 8 * s + i < 192 by omega) (by decide)), nI_clamp (show 8 * s + i < 2 ^ 31 by omega), if_pos h14, h15]
    rfl
  rw [L_CX_choosing_0_39, if_pos (inb_nI hs (by decide)), nI_clamp (show s < 2 ^ 31 by omega), ekc, if_neg (nI_ge hi (by omega)), bitC S z (show i < 32 by omega), Option.bind_some, m_CSelects_place, Option.bind_some, ixc8, hg, Option.bind_some, nI_1]
  by_cases c : bt z i = true
  · rw [if_pos c, b2_t c, if_neg one0]
  · rw [if_neg c, b2_f c, if_pos rfl]
theorem inC_end (hs : s < 24) (hk : k ≤ 8) (ekc : gA S 12 s = nI k) (n : Nat) (fi : Int32) (g : Int64) : L_CX_choosing_0_39 S (nI s) x 1 z (n + 1) fi g (nI k) = some (.inl g) := by
  rw [L_CX_choosing_0_39, if_pos (inb_nI hs (by decide)), nI_clamp (show s < 2 ^ 31 by omega), ekc, if_pos (nI_le (by omega) (by omega))]
theorem inB (hs : s < 24) (hk : k ≤ 8) (ekc : gA S 12 s = nI k) (ekm : gA T 11 s = nI k) (hb : ∀ i, i < k → gA S 14 (8 * s + i) = 0 ∧ gA S 15 (8 * s + i) = gA T 13 (8 * s + i)) : ∀ (m i n : Nat) (T' : StM) (a : Nat), JM T T' → a < 8 → gI T' 13 = nI a → gI T' 11 = 1 → m = k - i → i ≤ k → m < n → ∃ T'' g', L_MX_chooseInner_48 (nI s) z n T' (nI i) = some T'' ∧ JM T T'' ∧ (∀ j, 7 ≤ j → j < 11 → gI T'' j = gI T' j) ∧ fin9 (L_CX_choosing_0_39 S (nI s) x 1 z n (nI a) (ofV (gI T' 12)) (nI i)) = some g' ∧ RC3 g' (gI T'' 11) (gI T'' 12) (gI T'' 13) (gI T'' 14) := by
  intro m
  induction m with
  | zero =>
    intro i n T' a j ha h13 h11 hm hi hn
    obtain ⟨n, rfl⟩ : ∃ k, n = k + 1 := ⟨n - 1, by omega⟩
    rw [show i = k by omega]
    exact ⟨T', _, inM_end j hs hk ekm n, j, fun _ _ _ => rfl, by rw [inC_end hs hk ekc, fin_l], Or.inr (Or.inl ⟨h11, rfl⟩)⟩
  | succ m ih =>
    intro i n T' a j ha h13 h11 hm hi hn
    obtain ⟨n, rfl⟩ : ∃ k, n = k + 1 := ⟨n - 1, by omega⟩
    have hik : i < k := by omega
    rw [inM_step j hs hk ekm hik, inC_step (T := T) hs hk ekc hik (hb i hik).1 (hb i hik).2]
    by_cases c : bt z i = true
    · rw [if_pos c, if_pos c, if_neg (by rw [h11]; exact one2), if_neg (by rw [h13]; exact nI_ne_m1 (by omega)), if_neg (nI_ne_m1 (by omega)), rc3_like S (k := 1) (v := gI T' 12) (f := 0) (g := 0) (k' := 1) (v' := gA T 13 (8 * s + i)) (f' := 0) (g' := 0) (Or.inr (Or.inl ⟨rfl, rfl⟩)) (Or.inr (Or.inl ⟨rfl, rfl⟩)), Option.bind_some]
      by_cases e : gA T 13 (8 * s + i) = gI T' 12
      · rw [if_pos e, b2_t ⟨rfl, fun _ => e⟩, if_neg one0]
        exact ih (i + 1) n T' a j ha h13 h11 (by omega) (by omega) (by omega)
      · rw [if_neg e, b2_f (fun o => e (o.2 rfl)), if_pos rfl]
        have j2 : JM T (sI (sI T' 14 (nI i)) 11 2) := J_sI (J_sI j 14 _ (by omega)) 11 _ (by omega)
        refine ⟨_, ofC a i, inM_still j2 hs hk ekm m (i + 1) n (by omega) (by omega) (by omega) (Or.inl rfl), j2, fun l h1 h2 => ?_, rfl, Or.inr (Or.inr ⟨rfl, a, i, ha, by omega, h13, rfl, rfl⟩)⟩
        rw [gI_sI, if_neg (by omega), gI_sI, if_neg (by omega)]
    · rw [if_neg c, if_neg c]
      exact ih (i + 1) n T' a j ha h13 h11 (by omega) (by omega) (by omega)
theorem inA (hs : s < 24) (hk : k ≤ 8) (ekc : gA S 12 s = nI k) (ekm : gA T 11 s = nI k) (hb : ∀ i, i < k → gA S 14 (8 * s + i) = 0 ∧ gA S 15 (8 * s + i) = gA T 13 (8 * s + i)) (g : Int64) : ∀ (m i n : Nat) (T' : StM), JM T T' → gI T' 13 = -1 → ¬ gI T' 11 = 2 → (∃ b, i ≤ b ∧ b < k ∧ bt z b = true) → m = k - i → i ≤ k → m < n → ∃ T'' g', L_MX_chooseInner_48 (nI s) z n T' (nI i) = some T'' ∧ JM T T'' ∧ (∀ j, 7 ≤ j → j < 11 → gI T'' j = gI T' j) ∧ fin9 (L_CX_choosing_0_39 S (nI s) x 1 z n (-1) g (nI i)) = some g' ∧ RC3 g' (gI T'' 11) (gI T'' 12) (gI T'' 13) (gI T'' 14) := by
  intro m
  induction m with
  | zero =>
    rintro i n T' j h13 h11 ⟨b, h1, h2, h3⟩ hm hi hn
    omega
  | succ m ih =>
    rintro i n T' j h13 h11 ⟨b, h1, h2, h3⟩ hm hi hn
    obtain ⟨n, rfl⟩ : ∃ k, n = k + 1 := ⟨n - 1, by omega⟩
    have hik : i < k := by omega
    rw [inM_step j hs hk ekm hik, inC_step (T := T) hs hk ekc hik (hb i hik).1 (hb i hik).2]
    by_cases c : bt z i = true
    · rw [if_pos c, if_pos c, if_neg h11, if_pos h13, if_pos rfl]
      have j2 : JM T (sI (sI (sI T' 13 (nI i)) 11 1) 12 (gA T 13 (8 * s + i))) := J_sI (J_sI (J_sI j 13 _ (by omega)) 11 _ (by omega)) 12 _ (by omega)
      obtain ⟨T'', g', e1, e2, e3, e4, e5⟩ := inB hs hk ekc ekm hb (x := x) (z := z) m (i + 1) n _ i j2 (by omega) rfl rfl (by omega) (by omega) (by omega)
      refine ⟨T'', g', e1, e2, fun l l1 l2 => ?_, e4, e5⟩
      rw [e3 l l1 l2, gI_sI, if_neg (by omega), gI_sI, if_neg (by omega), gI_sI, if_neg (by omega)]
    · rw [if_neg c, if_neg c]
      refine ih (i + 1) n T' j h13 h11 ⟨b, ?_, h2, h3⟩ (by omega) (by omega) (by omega)
      by_cases e : b = i
      · rw [e] at h3; exact absurd h3 c
      · omega
end
theorem selO {S : StC} {T : StM} {nS nP nK nQ nT nE nN s : Nat} (h : RelB S T nS nP nK nQ nT nE nN) (hs : s < nE) : (gA T 16 s = 0 ∧ gB S 1 s = 0) ∨ (gA T 16 s = 1 ∧ gB S 1 s = ofV (gA T 14 s)) := by
  obtain ⟨-, -, -, -, -, hE, -, r1, r2, r3, r4, r5, r6, r7, r8, r9, -⟩ := h
  rcases r9 s (by omega) with ⟨h1, h2⟩ | ⟨h1, h2, h3⟩
  · exact Or.inl ⟨h1, h2 hs⟩
  · exact Or.inr ⟨h1, h3⟩
/-- a SELECT within another one -/
theorem innerCM {S : StC} {T T' : StM} {nS nP nK nQ nT nE nN s c : Nat} {x g0 : Int64} (h : RelB S T nS nP nK nQ nT nE nN) (hs : s < nE) (hc : c ≤ 60) (hr : RowX T nS nP c x) (hnn : ∀ d, d < (gA T 11 s).toNatClampNeg → gA T 15 (8 * s + d) = 0) (j : JM T T') (r : RCho g0 (gI T' 7) (gI T' 8) (gI T' 9) (gI T' 10)) : ∃ g T'', m_CX_choosing_0 S (nI s) x 1 = some g ∧ m_MX_chooseInner T' (nI s) (nI c) = some T'' ∧ JM T T'' ∧ (∀ j, 7 ≤ j → j < 11 → gI T'' j = gI T' j) ∧ RC3 g (gI T'' 11) (gI T'' 12) (gI T'' 13) (gI T'' 14) := by
  have hE : nE ≤ 24 := h.2.2.2.2.2.1.1
  have hs24 : s < 24 := by omega
  obtain ⟨k, hk, ekc, ekm, hkb⟩ := selOf h hs24
  have ek : (gA T 11 s).toNatClampNeg = k := by rw [ekm, nI_clamp (by omega)]
  rw [ek] at hnn
  obtain ⟨y, z, e1, e2, e3, e4⟩ := bestBoth h hs24 hc hr j r
  have hb : ∀ i, i < k → gA S 14 (8 * s + i) = 0 ∧ gA S 15 (8 * s + i) = gA T 13 (8 * s + i) := fun i hi => ⟨(hkb i hi).2.1.trans (hnn i hi), (hkb i hi).2.2.1⟩
  have main : ∀ (w o : Int32), (¬ w = 2) → (z = 0 → RC3 (gB S 1 s) w o (-1) (-1)) → ∃ g T'', m_CX_choosing_0 S (nI s) x 1 = some g ∧ L_MX_chooseInner_48 (nI s) z 100 (sI (sI (sI (sI T' 11 w) 12 o) 13 (-1)) 14 (-1)) 0 = some T'' ∧ JM T T'' ∧ (∀ j, 7 ≤ j → j < 11 → gI T'' j = gI T' j) ∧ RC3 g (gI T'' 11) (gI T'' 12) (gI T'' 13) (gI T'' 14) := fun w o hw hz => by
    have j2 : JM T (sI (sI (sI (sI T' 11 w) 12 o) 13 (-1)) 14 (-1)) := J_sI (J_sI (J_sI (J_sI j 11 _ (by omega)) 12 _ (by omega)) 13 _ (by omega)) 14 _ (by omega)
    have keep : ∀ l, 7 ≤ l → l < 11 → gI (sI (sI (sI (sI T' 11 w) 12 o) 13 (-1)) 14 (-1)) l = gI T' l := fun l l1 l2 => by
      rw [gI_sI, if_neg (by omega), gI_sI, if_neg (by omega), gI_sI, if_neg (by omega), gI_sI, if_neg (by omega)]
    unfold m_CX_choosing_0
    rw [e1, Option.bind_some, e2, Option.bind_some]
    by_cases c0 : z = 0
    · rw [if_pos c0, if_pos (inb_nI hs24 (by decide)), nI_clamp (show s < 2 ^ 31 by omega)]
      refine ⟨_, _, rfl, inM_still j2 hs24 hk ekm k 0 100 (by omega) (by omega) (by omega) (Or.inr (fun b _ _ e => ?_)), j2, keep, hz c0⟩
      rw [c0, b_0] at e
      cases e
    · rw [if_neg c0]
      obtain ⟨b, b1, b2'⟩ := bit_some c0
      have b3 : b < k := by
        have := ((e4 b b1).mp b2').1
        rw [ek] at this
        exact this
      obtain ⟨T'', g', f1, f2, f3, f4, f5⟩ := inA hs24 hk ekc ekm hb (x := x) (z := z) 0 k 0 100 _ j2 rfl hw ⟨b, Nat.zero_le _, b3, b2'⟩ (by omega) (by omega) (by omega)
      exact ⟨g', T'', f4, f1, f2, fun l l1 l2 => (f3 l l1 l2).trans (keep l l1 l2), f5⟩
  unfold m_MX_chooseInner
  rw [e3, Option.bind_some, if_pos (inb_nI hs24 (by decide)), nI_clamp (show s < 2 ^ 31 by omega), j.1, j.1]
  rcases selO h hs with ⟨o1, o2⟩ | ⟨o1, o2⟩
  · obtain ⟨g, T'', f1, f2, f3⟩ := main 0 (gA T 14 s) zero2 (fun _ => Or.inl ⟨rfl, o2⟩)
    exact ⟨g, T'', f1, by rw [if_pos o1, f2, Option.bind_some], f3⟩
  · obtain ⟨g, T'', f1, f2, f3⟩ := main 1 (gA T 14 s) one2 (fun _ => Or.inr (Or.inl ⟨rfl, o2⟩))
    exact ⟨g, T'', f1, by rw [if_neg (by rw [o1]; exact one0), f2, Option.bind_some], f3⟩
