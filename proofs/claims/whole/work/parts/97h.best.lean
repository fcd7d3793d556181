/-! the reference's best BRANCHES -/
/-- a loop that takes bits away -/
theorem bitD (F : Nat → Int32 → Int32 → Option Int32) (k : Nat) (Q : Nat → Nat → Prop) (hz : ∀ (n : Nat) (x : Int32), F (n + 1) x (nI k) = some x) (hs : ∀ (n : Nat) (x : Int32) (i : Nat) (P : Nat → Prop), i < k → Rep x P → ∃ z, F (n + 1) x (nI i) = F n z (nI (i + 1)) ∧ Rep z (fun b => P b ∧ ¬ Q i b)) : ∀ (m i n : Nat) (x : Int32) (P : Nat → Prop), m = k - i → i ≤ k → m < n → Rep x P → ∃ z, F n x (nI i) = some z ∧ Rep z (fun b => P b ∧ ∀ j, i ≤ j → j < k → ¬ Q j b) := by
  intro m
  induction m with
  | zero =>
    intro i n x P hm hi hn hP
    obtain ⟨n, rfl⟩ : ∃ k, n = k + 1 := ⟨n - 1, by omega⟩
    refine ⟨x, by rw [show i = k by omega, hz], rep_iff hP (fun b _ => ⟨fun h => ⟨h, fun j h1 h2 => absurd h2 (by omega)⟩, fun h => h.1⟩)⟩
  | succ m ih =>
    intro i n x P hm hi hn hP
    obtain ⟨n, rfl⟩ : ∃ k, n = k + 1 := ⟨n - 1, by omega⟩
    obtain ⟨y, e, hy⟩ := hs n x i P (by omega) hP
    obtain ⟨z, g1, g2⟩ := ih (i + 1) n y _ (by omega) (by omega) (by omega) hy
    refine ⟨z, e.trans g1, rep_iff g2 (fun b _ => ?_)⟩
    constructor
    · rintro ⟨⟨h1, h2⟩, h3⟩
      refine ⟨h1, fun j j1 j2 => ?_⟩
      by_cases c : j = i
      · rw [c]; exact h2
      · exact h3 j (by omega) j2
    · rintro ⟨h1, h2⟩
      exact ⟨⟨h1, h2 i (Nat.le_refl _) (by omega)⟩, fun j j1 j2 => h2 j (by omega) j2⟩
theorem rep_del {x : Int32} {P : Nat → Prop} {d : Nat} (h : Rep x P) (hd : d < 32) : Rep (x &&& (((1 : Int32) <<< (nI d &&& 31)) ^^^ ((-1) : Int32))) (fun b => P b ∧ ¬ b = d) := fun b hb => by
  have r := rep_1 hd b hb
  rw [b_and, b_xor, b_m1 b hb, Bool.and_eq_true, h b hb]
  cases hx : bt ((1 : Int32) <<< (nI d &&& 31)) b with
  | true => rw [hx] at r; have := r.mp rfl; simp [this]
  | false => rw [hx] at r; have : ¬ b = d := fun e => Bool.noConfusion (r.mpr e); simp [this]
theorem bestM_in {S : StC} {T : StM} {nS nP nK nQ nT nE nN s c i k : Nat} (h : RelB S T nS nP nK nQ nT nE nN) (hs : s < 24) (hk : k ≤ 8) (ekm : gA T 11 s = nI k) (hq : ∀ b, b < k → ∃ q : Nat, q < 40 ∧ gA T 12 (8 * s + b) = nI q) {z : Int32} (hz : Rep z (fun b => b < k ∧ hldT nS T (cdB T s b) c)) (hi : i < k) (x : Int32) (P : Nat → Prop) (hP : Rep x P) : ∃ y, L_MX_mostSpecial_73 T (nI s) z (nI i) 100 x 0 = some y ∧ Rep y (fun b => P b ∧ ∀ j, 0 ≤ j → j < k → ¬ (b = i ∧ hldT nS T (cdB T s i) c ∧ hldT nS T (cdB T s j) c ∧ hasT nS T (cdB T s j) (cdB T s i) ∧ ¬ hasT nS T (cdB T s i) (cdB T s j))) := by
  refine bitD (fun n x y => L_MX_mostSpecial_73 T (nI s) z (nI i) n x y) k (fun j b => b = i ∧ hldT nS T (cdB T s i) c ∧ hldT nS T (cdB T s j) c ∧ hasT nS T (cdB T s j) (cdB T s i) ∧ ¬ hasT nS T (cdB T s i) (cdB T s j)) (fun n x => by
    show L_MX_mostSpecial_73 T (nI s) z (nI i) (n + 1) _ _ = _
    rw [L_MX_mostSpecial_73, if_pos (inb_nI hs (by decide)), nI_clamp (by omega), ekm, if_pos (nI_le (by omega) (by omega))]) (fun n x j P hj hP => ?_) k 0 100 x P (by omega) (by omega) (by omega) hP
  obtain ⟨q, hq1, e1⟩ := hq i hi
  obtain ⟨r, hr1, e2⟩ := hq j hj
  have eq : cdB T s i = q := by unfold cdB; rw [e1, nI_clamp (by omega)]
  have er : cdB T s j = r := by unfold cdB; rw [e2, nI_clamp (by omega)]
  have hu : L_MX_mostSpecial_73 T (nI s) z (nI i) (n + 1) x (nI j) = if bt z i = true then if bt z j = true then if b2 (hasT nS T r q ∧ ¬ hasT nS T q r) = 0 then L_MX_mostSpecial_73 T (nI s) z (nI i) n x (nI (j + 1)) else L_MX_mostSpecial_73 T (nI s) z (nI i) n (x &&& (((1 : Int32) <<< (nI i &&& 31)) ^^^ ((-1) : Int32))) (nI (j + 1)) else L_MX_mostSpecial_73 T (nI s) z (nI i) n x (nI (j + 1)) else L_MX_mostSpecial_73 T (nI s) z (nI i) n x (nI (j + 1)) := by
    rw [L_MX_mostSpecial_73, if_pos (inb_nI hs (by decide)), nI_clamp (show s < 2 ^ 31 by omega), ekm, if_neg (nI_ge hj (by omega)), nI_1]
    by_cases c1 : bt z i = true
    · rw [if_pos c1, if_pos ((bitM1 z (show i < 31 by omega)).mpr c1)]
      by_cases c2 : bt z j = true
      · rw [if_pos c2, if_pos ((bitM1 z (show j < 31 by omega)).mpr c2), if_neg one0, ixm8, ixm8, if_pos (inb_nI (show 8 * s + j < 192 by omega) (by decide)), if_pos (inb_nI (show 8 * s + i < 192 by omega) (by decide)), nI_clamp (show 8 * s + j < 2 ^ 31 by omega), nI_clamp (show 8 * s + i < 2 ^ 31 by omega), e1, e2, isSpecM h hr1 hq1, Option.bind_some]
      · rw [if_neg c2, if_neg (fun o => c2 ((bitM1 z (show j < 31 by omega)).mp o)), if_pos rfl]
    · rw [if_neg c1, if_neg (fun o => c1 ((bitM1 z (show i < 31 by omega)).mp o)), if_pos rfl]
  show ∃ z', L_MX_mostSpecial_73 T (nI s) z (nI i) (n + 1) x (nI j) = L_MX_mostSpecial_73 T (nI s) z (nI i) n z' (nI (j + 1)) ∧ _
  rw [hu, eq, er]
  have r1 : bt z i = true ↔ (i < k ∧ hldT nS T (cdB T s i) c) := hz i (by omega)
  have r2 : bt z j = true ↔ (j < k ∧ hldT nS T (cdB T s j) c) := hz j (by omega)
  rw [eq] at r1
  rw [er] at r2
  by_cases c1 : bt z i = true
  · rw [if_pos c1]
    by_cases c2 : bt z j = true
    · rw [if_pos c2]
      by_cases o : hasT nS T r q ∧ ¬ hasT nS T q r
      · rw [b2_t o, if_neg one0]
        exact ⟨_, rfl, rep_iff (rep_del hP (show i < 32 by omega)) (fun b _ => ⟨fun g => ⟨g.1, fun g' => g.2 g'.1⟩, fun g => ⟨g.1, fun e => g.2 ⟨e, (r1.mp c1).2, (r2.mp c2).2, o⟩⟩⟩)⟩
      · rw [b2_f o, if_pos rfl]
        exact ⟨_, rfl, rep_iff hP (fun b _ => ⟨fun g => ⟨g, fun g' => o g'.2.2.2⟩, fun g => g.1⟩)⟩
    · rw [if_neg c2]
      exact ⟨_, rfl, rep_iff hP (fun b _ => ⟨fun g => ⟨g, fun g' => c2 (r2.mpr ⟨hj, g'.2.2.1⟩)⟩, fun g => g.1⟩)⟩
  · rw [if_neg c1]
    exact ⟨_, rfl, rep_iff hP (fun b _ => ⟨fun g => ⟨g, fun g' => c1 (r1.mpr ⟨hi, g'.2.1⟩)⟩, fun g => g.1⟩)⟩
theorem bestM {S : StC} {T : StM} {nS nP nK nQ nT nE nN s c : Nat} {x : Int64} (h : RelB S T nS nP nK nQ nT nE nN) (hs : s < 24) (hc : c ≤ 60) (hr : RowX T nS nP c x) : ∃ z, m_MX_mostSpecial T (nI s) (nI c) = some z ∧ Rep z (bestT nS T c s) := by
  obtain ⟨k, hk, ekc, ekm, hkb⟩ := selOf h hs
  have ek : (gA T 11 s).toNatClampNeg = k := by rw [ekm, nI_clamp (by omega)]
  have hq : ∀ b, b < k → ∃ q : Nat, q < 40 ∧ gA T 12 (8 * s + b) = nI q := fun b hb => by
    obtain ⟨q, h1, -, h3⟩ := (hkb b hb).1
    exact ⟨q, h1, h3⟩
  obtain ⟨y, y1, y2⟩ := bitL (fun n x' y' => L_MX_mostSpecial_5 T (nI s) (nI c) n x' y') 0 k (fun i b => b = i ∧ hldT nS T (cdB T s i) c) (fun n x' => by
    simp only [Nat.zero_add]
    rw [L_MX_mostSpecial_5, if_pos (inb_nI hs (by decide)), nI_clamp (by omega), ekm, if_pos (nI_le (by omega) (by omega))]) (fun n x' i hi => by
    obtain ⟨q, hq1, e2⟩ := hq i hi
    have eq : cdB T s i = q := by unfold cdB; rw [e2, nI_clamp (by omega)]
    have hu : L_MX_mostSpecial_5 T (nI s) (nI c) (n + 1) x' (nI i) = if b2 (hldT nS T q c) = 0 then L_MX_mostSpecial_5 T (nI s) (nI c) n (x' ||| (0 : Int32)) (nI (i + 1)) else L_MX_mostSpecial_5 T (nI s) (nI c) n (x' ||| ((1 : Int32) <<< (nI i &&& 31))) (nI (i + 1)) := by
      rw [L_MX_mostSpecial_5, if_pos (inb_nI hs (by decide)), nI_clamp (show s < 2 ^ 31 by omega), ekm, if_neg (nI_ge hi (by omega)), ixm8, if_pos (inb_nI (show 8 * s + i < 192 by omega) (by decide)), nI_clamp (show 8 * s + i < 2 ^ 31 by omega), e2, holdM h hq1 hc hr, Option.bind_some, nI_1]
    simp only [Nat.zero_add]
    rw [hu, eq]
    by_cases o : hldT nS T q c
    · rw [b2_t o, if_neg one0]
      exact ⟨_, rfl, rep_iff (rep_1 (show i < 32 by omega)) (fun b _ => ⟨fun g => ⟨g, o⟩, fun g => g.1⟩)⟩
    · rw [b2_f o, if_pos rfl]
      exact ⟨_, rfl, rep_iff rep_0 (fun b _ => ⟨False.elim, fun g => o g.2⟩)⟩) k 0 100 0 (fun _ => False) (by omega) (by omega) (by omega) rep_0
  have y3 : Rep y (fun b => b < k ∧ hldT nS T (cdB T s b) c) := rep_iff y2 (fun b _ => by
    constructor
    · rintro (g | ⟨j, _, h2, rfl, h4⟩)
      · exact g.elim
      · exact ⟨h2, h4⟩
    · rintro ⟨h1, h2⟩
      exact Or.inr ⟨b, Nat.zero_le _, h1, rfl, h2⟩)
  obtain ⟨z, z1, z2⟩ := bitD (fun n x' y' => L_MX_mostSpecial_59 T (nI s) y n x' y') k (fun i b => ∃ j, j < k ∧ (b = i ∧ hldT nS T (cdB T s i) c ∧ hldT nS T (cdB T s j) c ∧ hasT nS T (cdB T s j) (cdB T s i) ∧ ¬ hasT nS T (cdB T s i) (cdB T s j))) (fun n x' => by
    show L_MX_mostSpecial_59 T (nI s) y (n + 1) _ _ = _
    rw [L_MX_mostSpecial_59, if_pos (inb_nI hs (by decide)), nI_clamp (by omega), ekm, if_pos (nI_le (by omega) (by omega))]) (fun n x' i P hi hP => by
    obtain ⟨w, w1, w2⟩ := bestM_in h hs hk ekm hq y3 hi x' P hP
    refine ⟨w, ?_, rep_iff w2 (fun b _ => ⟨fun g => ⟨g.1, fun ⟨j, j1, j2⟩ => g.2 j (Nat.zero_le _) j1 j2⟩, fun g => ⟨g.1, fun j _ j1 j2 => g.2 ⟨j, j1, j2⟩⟩⟩)⟩
    show L_MX_mostSpecial_59 T (nI s) y (n + 1) _ _ = _
    rw [L_MX_mostSpecial_59, if_pos (inb_nI hs (by decide)), nI_clamp (show s < 2 ^ 31 by omega), ekm, if_neg (nI_ge hi (by omega)), w1, Option.bind_some, nI_1]) k 0 100 y _ (by omega) (by omega) (by omega) y3
  refine ⟨z, ?_, rep_iff z2 (fun b _ => ?_)⟩
  · unfold m_MX_mostSpecial
    rw [show L_MX_mostSpecial_5 T (nI s) (nI c) 100 0 0 = _ from y1, Option.bind_some, show L_MX_mostSpecial_59 T (nI s) y 100 y 0 = _ from z1, Option.bind_some]
  · unfold bestT
    rw [ek]
    constructor
    · rintro ⟨⟨h1, h2⟩, h3⟩
      exact ⟨h1, h2, fun ⟨j, j1, j2, j3⟩ => h3 b (Nat.zero_le _) h1 ⟨j, j1, rfl, h2, j2, j3⟩⟩
    · rintro ⟨h1, h2, h3⟩
      refine ⟨⟨h1, h2⟩, fun i _ i1 i2 => ?_⟩
      obtain ⟨j, j1, rfl, j3, j4, j5⟩ := i2
      exact h3 ⟨j, j1, j4, j5⟩
