/-! MORE SPECIAL -/
/-- what the reference compares ASKINGS by -/
def abV (nS : Nat) (T : StM) (i : Nat) : Int32 := if gA T 9 i = 0 then if bas nS (gA T 0) (gA T 7 i) = -1 then (8 : Int32) * ((100 : Int32) + gA T 7 i) + gA T 8 i else (8 : Int32) * bas nS (gA T 0) (gA T 7 i) + gA T 8 i else (8 : Int32) * ((200 : Int32) + gA T 7 i) + gA T 8 i
theorem aboutM {T : StM} {nS i : Nat} (hS : nS ≤ 16) (hSm : gI T 0 = nI nS) (hi : i < 240) : m_MX_about T (nI i) = some (abV nS T i) := by
  unfold m_MX_about abV
  rw [if_pos (inb_nI hi (by decide)), nI_clamp (by omega), baseM hSm hS, Option.bind_some]
  by_cases c : gA T 9 i = 0
  · rw [if_pos c, if_pos c, if_pos c]
    by_cases d : bas nS (gA T 0) (gA T 7 i) = -1
    · rw [if_pos d, if_pos d]
    · rw [if_neg d, if_neg d]
  · rw [if_neg c, if_neg c, if_neg c]
/-- an ASKING that is met: what it is about settles its VALUE -/
theorem met_form {S : StC} {T : StM} {nS nP c i : Nat} {x : Int64} (hS : nS ≤ 16) (ha : askP S T nS i) (hr : RowX T nS nP c x) (ho : okA nS T c i) : ∃ b v : Nat, b < 24 ∧ v < 8 ∧ abV nS T i = nI (8 * (if b < 16 then b else 184 + b) + v) ∧ nI v = (if b < 16 then gA T 5 (16 * c + b) else gA T 3 (8 * (gA T 4 c).toNatClampNeg + (b - 16))) ∧ ∀ d, abT nS T i d ↔ d = b := by
  obtain ⟨w, v, hv, ew, ev, h⟩ := ha
  rcases ho with ⟨c0, hb, e⟩ | ⟨c0, e⟩
  · rcases bas_is (n := nS) (ma := gA T 0) hS (gA T 7 i) with e1 | ⟨j, hj, hm, ej⟩
    · exact absurd e1 hb
    · have hj16 : j < 16 := by omega
      refine ⟨j, v, by omega, hv, ?_, ?_, fun d => ⟨?_, ?_⟩⟩
      · unfold abV
        rw [if_pos c0, if_neg hb, ej, ev, ixm8, if_pos hj16]
      · rw [ej, nI_clamp (by omega), ev] at e
        rw [if_pos hj16, e]
      · rintro (⟨_, h2, h3⟩ | ⟨h2, _⟩)
        · rw [ej] at h3; exact (nI_inj (by omega) (by omega) h3).symm
        · exact absurd c0 h2
      · rintro rfl
        exact Or.inl ⟨c0, hj16, ej⟩
  · have hw : w < 8 := by
      rcases h with ⟨h1, _⟩ | ⟨_, h2, _⟩
      · exact absurd h1 c0
      · exact h2
    have n16 : ¬ 16 + w < 16 := by omega
    refine ⟨16 + w, v, by omega, hv, ?_, ?_, fun d => ⟨?_, ?_⟩⟩
    · unfold abV
      rw [if_neg c0, ew, ev, if_neg n16, show (200 : Int32) = nI 200 from rfl, nI_add, ixm8, show 184 + (16 + w) = 200 + w by omega]
    · rw [ew, nI_clamp (show w < 2 ^ 31 by omega), ev] at e
      rw [if_neg n16, show 16 + w - 16 = w by omega, e]
    · rintro (⟨h1, _⟩ | ⟨_, h2, h3, h4⟩)
      · exact absurd h1 c0
      · rw [ew] at h4
        have := nI_inj (by omega) (by omega) h4
        omega
    · rintro rfl
      exact Or.inr ⟨c0, by omega, by omega, by rw [ew, show 16 + w - 16 = w by omega]⟩
theorem condOf {S : StC} {T : StM} {nS nP nK nQ nT nE nN q : Nat} (h : RelB S T nS nP nK nQ nT nE nN) (hq : q < 40) : ∃ k : Nat, k ≤ 6 ∧ gA T 6 q = nI k ∧ ∀ j, j < k → askP S T nS (6 * q + j) := by
  obtain ⟨-, -, -, -, -, -, -, r1, r2, r3, r4, -⟩ := h
  obtain ⟨k, hk, ekc, ekm, hk0, hkj⟩ := r4 q hq
  exact ⟨k, hk, ekm, hkj⟩
/-- ASKINGS of one CONDITION that another one has -/
def hasT (nS : Nat) (T : StM) (q1 q2 : Nat) : Prop := ∀ j, j < (gA T 6 q2).toNatClampNeg → ∃ l, l < (gA T 6 q1).toNatClampNeg ∧ abV nS T (6 * q1 + l) = abV nS T (6 * q2 + j)
theorem hasAllM {S : StC} {T : StM} {nS nP nK nQ nT nE nN q1 q2 : Nat} (h : RelB S T nS nP nK nQ nT nE nN) (h1 : q1 < 40) (h2 : q2 < 40) : m_MX_hasAll T (nI q1) (nI q2) = some (b2 (hasT nS T q1 q2)) := by
  obtain ⟨k1, hk1, e1, -⟩ := condOf h h1
  obtain ⟨k2, hk2, e2, -⟩ := condOf h h2
  obtain ⟨⟨hS, hSc, hSm⟩, -⟩ := h
  have f1 : (gA T 6 q1).toNatClampNeg = k1 := by rw [e1, nI_clamp (by omega)]
  have f2 : (gA T 6 q2).toNatClampNeg = k2 := by rw [e2, nI_clamp (by omega)]
  have hin : ∀ (x3 : Int32) (i : Nat), i < 240 → L_MX_hasAll_33 T (nI q1) (nI q2) x3 (nI i) 100 0 (nI (6 * q1)) = some (b2 (∃ l, l < k1 ∧ abV nS T (6 * q1 + l) = abV nS T i)) := fun x3 i hi => by
    have g := orL (fun n x y => L_MX_hasAll_33 T (nI q1) (nI q2) x3 (nI i) n x y) (6 * q1) k1 (fun l => abV nS T (6 * q1 + l) = abV nS T i) (fun n P => by
      show L_MX_hasAll_33 T (nI q1) (nI q2) x3 (nI i) (n + 1) _ _ = _
      rw [L_MX_hasAll_33, if_pos (inb_nI h1 (by decide)), nI_clamp (by omega), e1, ixm6, if_pos (nI_le (by omega) (by omega))]) (fun n P l hl => by
      show L_MX_hasAll_33 T (nI q1) (nI q2) x3 (nI i) (n + 1) _ _ = _
      rw [L_MX_hasAll_33, if_pos (inb_nI h1 (by decide)), nI_clamp (by omega), e1, ixm6, if_neg (nI_ge (by omega) (by omega)), aboutM hS hSm (show 6 * q1 + l < 240 by omega), Option.bind_some, aboutM hS hSm hi, Option.bind_some, nI_1, show 6 * q1 + l + 1 = 6 * q1 + (l + 1) by omega]
      by_cases hP : P
      · rw [b2_t hP, if_neg one0, ← b2_or1 hP]
      · rw [b2_f hP, if_pos rfl]
        by_cases g : abV nS T (6 * q1 + l) = abV nS T i
        · rw [if_pos g, ← b2_or2 g]
        · rw [if_neg g, ← b2_or0 hP g]) k1 0 100 False (by omega) (by omega) (by omega)
    rw [b2_f id] at g
    rw [show nI (6 * q1) = nI (6 * q1 + 0) from rfl, show L_MX_hasAll_33 T (nI q1) (nI q2) x3 (nI i) 100 0 (nI (6 * q1 + 0)) = _ from g]
    congr 1
    apply b2_iff
    exact ⟨fun o => o.elim False.elim (fun ⟨l, _, g1, g2⟩ => ⟨l, g1, g2⟩), fun ⟨l, g1, g2⟩ => Or.inr ⟨l, Nat.zero_le _, g1, g2⟩⟩
  have hl := andL (fun n x y => L_MX_hasAll_8 T (nI q1) (nI q2) n x y) (6 * q2) k2 (fun j => ∃ l, l < k1 ∧ abV nS T (6 * q1 + l) = abV nS T (6 * q2 + j)) (fun n P => by
    show L_MX_hasAll_8 T (nI q1) (nI q2) (n + 1) _ _ = _
    rw [L_MX_hasAll_8, if_pos (inb_nI h2 (by decide)), nI_clamp (by omega), e2, ixm6, if_pos (nI_le (by omega) (by omega))]) (fun n P j hj => by
    show L_MX_hasAll_8 T (nI q1) (nI q2) (n + 1) _ _ = _
    rw [L_MX_hasAll_8, if_pos (inb_nI h2 (by decide)), nI_clamp (by omega), e2, ixm6, if_neg (nI_ge (by omega) (by omega)), m6, hin _ _ (show 6 * q2 + j < 240 by omega), Option.bind_some, nI_1, show 6 * q2 + j + 1 = 6 * q2 + (j + 1) by omega]
    by_cases hP : P
    · rw [b2_t hP, if_neg one0]
      by_cases g : ∃ l, l < k1 ∧ abV nS T (6 * q1 + l) = abV nS T (6 * q2 + j)
      · rw [b2_t g, if_neg one0, ← b2_and1 hP g]
      · rw [b2_f g, if_pos rfl, ← b2_andr g]
    · rw [b2_f hP, if_pos rfl, ← b2_and0 hP]) k2 0 100 True (by omega) (by omega) (by omega)
  rw [b2_t trivial] at hl
  unfold m_MX_hasAll
  rw [m6, show nI (6 * q2) = nI (6 * q2 + 0) from rfl, show L_MX_hasAll_8 T (nI q1) (nI q2) 100 1 (nI (6 * q2 + 0)) = _ from hl, Option.bind_some, if_pos (b2_isB _)]
  congr 1
  apply b2_iff
  unfold hasT
  rw [f1, f2]
  exact ⟨fun ⟨_, g⟩ j hj => g j (Nat.zero_le _) hj, fun g => ⟨trivial, fun j _ hj => g j hj⟩⟩
theorem isSpecM {S : StC} {T : StM} {nS nP nK nQ nT nE nN q1 q2 : Nat} (h : RelB S T nS nP nK nQ nT nE nN) (h1 : q1 < 40) (h2 : q2 < 40) : m_MX_isSpecial T (nI q1) (nI q2) = some (b2 (hasT nS T q1 q2 ∧ ¬ hasT nS T q2 q1)) := by
  unfold m_MX_isSpecial
  rw [hasAllM h h1 h2, Option.bind_some, hasAllM h h2 h1, Option.bind_some]
  by_cases a : hasT nS T q1 q2
  · rw [b2_t a, if_neg one0]
    by_cases b : hasT nS T q2 q1
    · rw [b2_t b, if_neg one0, b2_f (fun o => o.2 b)]
    · rw [b2_f b, if_pos rfl, b2_t ⟨a, b⟩]
  · rw [b2_f a, if_pos rfl, b2_f (fun o => a o.1)]
def sbT (nS : Nat) (T : StM) (q q' : Nat) : Prop := ∀ b, b < 32 → amT nS T q b → amT nS T q' b
theorem has_sub {S : StC} {T : StM} {nS nP nK nQ nT nE nN q1 q2 c : Nat} {x : Int64} (h : RelB S T nS nP nK nQ nT nE nN) (h1 : q1 < 40) (h2 : q2 < 40) (hr : RowX T nS nP c x) (o1 : hldT nS T q1 c) (o2 : hldT nS T q2 c) : hasT nS T q1 q2 ↔ sbT nS T q2 q1 := by
  obtain ⟨k1, hk1, e1, a1⟩ := condOf h h1
  obtain ⟨k2, hk2, e2, a2⟩ := condOf h h2
  have hS : nS ≤ 16 := h.1.1
  have f1 : (gA T 6 q1).toNatClampNeg = k1 := by rw [e1, nI_clamp (by omega)]
  have f2 : (gA T 6 q2).toNatClampNeg = k2 := by rw [e2, nI_clamp (by omega)]
  unfold hasT sbT amT
  unfold hldT at o1 o2
  rw [f1] at o1
  rw [f2] at o2
  rw [f1, f2]
  constructor
  · rintro g b hb ⟨j, hj, hab⟩
    obtain ⟨l, hl, el⟩ := g j hj
    obtain ⟨d2, v2, hd2, hv2, x2, n2, u2⟩ := met_form hS (a2 j hj) hr (o2 j hj)
    obtain ⟨d1, v1, hd1, hv1, x1, n1, u1⟩ := met_form hS (a1 l hl) hr (o1 l hl)
    have ed : d1 = d2 := by
      rw [x1, x2] at el
      have := nI_inj (by split <;> omega) (by split <;> omega) el
      split at this <;> split at this <;> omega
    refine ⟨l, hl, (u1 b).mpr ?_⟩
    rw [(u2 b).mp hab, ed]
  · intro g j hj
    obtain ⟨d2, v2, hd2, hv2, x2, n2, u2⟩ := met_form hS (a2 j hj) hr (o2 j hj)
    obtain ⟨l, hl, hab⟩ := g d2 (by omega) ⟨j, hj, (u2 d2).mpr rfl⟩
    obtain ⟨d1, v1, hd1, hv1, x1, n1, u1⟩ := met_form hS (a1 l hl) hr (o1 l hl)
    have ed : d2 = d1 := (u1 d2).mp hab
    subst ed
    have ev : v1 = v2 := nI_inj (by omega) (by omega) (n1.trans n2.symm)
    exact ⟨l, hl, by rw [x1, x2, ev]⟩
theorem mask_sub {z a : Int32} {P Q : Nat → Prop} (h : Rep z P) (g : Rep a Q) : (z &&& a) = a ↔ ∀ b, b < 32 → Q b → P b := by
  constructor
  · intro e b hb hq
    have e1 := (g b hb).mpr hq
    rw [← e, b_and, Bool.and_eq_true] at e1
    exact (h b hb).mp e1.1
  · intro e
    apply b_ext
    intro b hb
    rw [b_and]
    cases ha : bt a b with
    | false => rw [Bool.and_false]
    | true => rw [(h b hb).mpr (e b hb ((g b hb).mp ha))]; rfl
theorem mask_eq {z a : Int32} {P Q : Nat → Prop} (h : Rep z P) (g : Rep a Q) : z = a ↔ ∀ b, b < 32 → (P b ↔ Q b) := by
  constructor
  · rintro rfl b hb
    exact (h b hb).symm.trans (g b hb)
  · exact rep_ext h g
theorem selOf {S : StC} {T : StM} {nS nP nK nQ nT nE nN s : Nat} (h : RelB S T nS nP nK nQ nT nE nN) (hs : s < 24) : ∃ k : Nat, k ≤ 8 ∧ gA S 12 s = nI k ∧ gA T 11 s = nI k ∧ ∀ b, b < k → (∃ q : Nat, q < 40 ∧ gA S 13 (8 * s + b) = nI q ∧ gA T 12 (8 * s + b) = nI q) ∧ gA S 14 (8 * s + b) = gA T 15 (8 * s + b) ∧ gA S 15 (8 * s + b) = gA T 13 (8 * s + b) ∧ (gA T 15 (8 * s + b) = 0 ∨ (gA T 15 (8 * s + b) = 1 ∧ ∃ v : Nat, v < s ∧ gA T 13 (8 * s + b) = nI v ∧ ∀ d, d < (gA T 11 v).toNatClampNeg → gA T 15 (8 * v + d) = 0)) := by
  obtain ⟨-, -, -, hQ, -, -, -, r1, r2, r3, r4, r5, r6, r7, -⟩ := h
  obtain ⟨k, hk, ekc, ekm, hk0, hkb⟩ := r7 s hs
  refine ⟨k, hk, ekc, ekm, fun b hb => ?_⟩
  obtain ⟨e1, e2, e3, ⟨q, hq, eq⟩, o⟩ := hkb b hb
  refine ⟨⟨q, by omega, e1.trans eq, eq⟩, e2, e3, ?_⟩
  rcases o with o | ⟨o, v, o1, o2, -, o4⟩
  · exact Or.inl o
  · exact Or.inr ⟨o, v, o1, o2, o4⟩
/-- the CONDITION of a BRANCH -/
def cdB (T : StM) (s b : Nat) : Nat := (gA T 12 (8 * s + b)).toNatClampNeg
/-- the BRANCHES that no other one outdoes -/
def bestT (nS : Nat) (T : StM) (c s b : Nat) : Prop := b < (gA T 11 s).toNatClampNeg ∧ hldT nS T (cdB T s b) c ∧ ¬ ∃ j, j < (gA T 11 s).toNatClampNeg ∧ hldT nS T (cdB T s j) c ∧ hasT nS T (cdB T s j) (cdB T s b) ∧ ¬ hasT nS T (cdB T s b) (cdB T s j)
theorem or_0 (x : Int32) : x ||| (0 : Int32) = x := by
  apply b_ext
  intro i _
  rw [b_or, b_0, Bool.or_false]
theorem condAtC {S : StC} {T : StM} {s b q : Nat} (hs : s < 24) (hb : b < 8) (e : gA S 13 (8 * s + b) = nI q) : m_CSelects_conditionAt S (nI s) (nI b) = some (nI q) := by
  unfold m_CSelects_conditionAt m_CSelects_place
  rw [Option.bind_some, ixc8, if_pos (inb_nI (show 8 * s + b < 192 by omega) (by decide)), nI_clamp (show 8 * s + b < 2 ^ 31 by omega), e]
theorem holdingC {S : StC} {T : StM} {nS nP nK nQ nT nE nN s c : Nat} {x : Int64} (h : RelB S T nS nP nK nQ nT nE nN) (hs : s < 24) (hr : RowX T nS nP c x) : ∃ z, m_CX_holdingBranches S (nI s) x = some z ∧ Rep z (fun b => b < (gA T 11 s).toNatClampNeg ∧ hldT nS T (cdB T s b) c) := by
  obtain ⟨k, hk, ekc, ekm, hkb⟩ := selOf h hs
  have ek : (gA T 11 s).toNatClampNeg = k := by rw [ekm, nI_clamp (by omega)]
  obtain ⟨z, g1, g2⟩ := bitG (fun n x' y => L_CX_holdingBranches_6 S (nI s) x n x' y) 0 k (fun i b => b = i ∧ hldT nS T (cdB T s i) c) (fun n x' => by
    simp only [Nat.zero_add]
    rw [L_CX_holdingBranches_6, if_pos (inb_nI hs (by decide)), nI_clamp (by omega), ekc, if_pos (nI_le (by omega) (by omega))]) (fun n x' i P hi hP => by
    obtain ⟨⟨q, hq, e1, e2⟩, -⟩ := hkb i hi
    have eq : cdB T s i = q := by unfold cdB; rw [e2, nI_clamp (by omega)]
    have hu : L_CX_holdingBranches_6 S (nI s) x (n + 1) x' (nI i) = if b2 (hldT nS T q c) = 0 then L_CX_holdingBranches_6 S (nI s) x n x' (nI (i + 1)) else L_CX_holdingBranches_6 S (nI s) x n (x' ||| ((1 : Int32) <<< (nI i &&& 31))) (nI (i + 1)) := by
      rw [L_CX_holdingBranches_6, if_pos (inb_nI hs (by decide)), nI_clamp (show s < 2 ^ 31 by omega), ekc, if_neg (nI_ge hi (by omega)), condAtC (T := T) hs (by omega) e1, Option.bind_some, metC h hq hr, Option.bind_some, nI_1]
    simp only [Nat.zero_add]
    rw [hu, eq]
    by_cases o : hldT nS T q c
    · rw [b2_t o, if_neg one0]
      exact ⟨_, rfl, rep_iff (rep_or hP (rep_1 (show i < 32 by omega))) (fun b _ => ⟨fun g => g.imp id (fun g => ⟨g, o⟩), fun g => g.imp id (fun g => g.1)⟩)⟩
    · rw [b2_f o, if_pos rfl]
      exact ⟨_, rfl, rep_iff hP (fun b _ => ⟨Or.inl, fun g => g.elim id (fun g => absurd g.2 o)⟩)⟩) k 0 100 0 (fun _ => False) (by omega) (by omega) (by omega) rep_0
  refine ⟨z, ?_, rep_iff g2 (fun b _ => ?_)⟩
  · unfold m_CX_holdingBranches
    rw [show L_CX_holdingBranches_6 S (nI s) x 100 0 0 = _ from g1, Option.bind_some]
  · rw [ek]
    constructor
    · rintro (g | ⟨j, _, h2, rfl, h4⟩)
      · exact g.elim
      · exact ⟨h2, h4⟩
    · rintro ⟨h1, h2⟩
      exact Or.inr ⟨b, Nat.zero_le _, h1, rfl, h2⟩
theorem outC_l {S : StC} {T : StM} {nS nP nK nQ nT nE nN s c i k : Nat} (h : RelB S T nS nP nK nQ nT nE nN) (hs : s < 24) (hk : k ≤ 8) (ekc : gA S 12 s = nI k) (hq : ∀ b, b < k → ∃ q : Nat, q < 40 ∧ gA S 13 (8 * s + b) = nI q ∧ gA T 12 (8 * s + b) = nI q) {z a : Int32} (hz : Rep z (fun b => b < k ∧ hldT nS T (cdB T s b) c)) (ha : Rep a (amT nS T (cdB T s i))) : ∀ (m j n : Nat), m = k - j → j ≤ k → m < n → ((∃ l, j ≤ l ∧ l < k ∧ hldT nS T (cdB T s l) c ∧ sbT nS T (cdB T s i) (cdB T s l) ∧ ¬ sbT nS T (cdB T s l) (cdB T s i)) → L_CX_isOutdone_18 S (nI s) z a n (nI j) = some (.inr 1)) ∧ (¬ (∃ l, j ≤ l ∧ l < k ∧ hldT nS T (cdB T s l) c ∧ sbT nS T (cdB T s i) (cdB T s l) ∧ ¬ sbT nS T (cdB T s l) (cdB T s i)) → L_CX_isOutdone_18 S (nI s) z a n (nI j) = some (.inl ())) := by
  intro m
  induction m with
  | zero =>
    intro j n hm hj hn
    obtain ⟨n, rfl⟩ : ∃ k, n = k + 1 := ⟨n - 1, by omega⟩
    refine ⟨fun ⟨l, h1, h2, _⟩ => absurd h2 (by omega), fun _ => ?_⟩
    rw [L_CX_isOutdone_18, if_pos (inb_nI hs (by decide)), nI_clamp (by omega), ekc, if_pos (nI_le (by omega) (by omega))]
  | succ m ih =>
    intro j n hm hj hn
    obtain ⟨n, rfl⟩ : ∃ k, n = k + 1 := ⟨n - 1, by omega⟩
    obtain ⟨g1, g2⟩ := ih (j + 1) n (by omega) (by omega) (by omega)
    obtain ⟨q, hq40, e1, e2⟩ := hq j (by omega)
    have eq : cdB T s j = q := by unfold cdB; rw [e2, nI_clamp (by omega)]
    obtain ⟨y, y1, y2⟩ := askedC h hq40
    have hu : L_CX_isOutdone_18 S (nI s) z a (n + 1) (nI j) = if b2 (bt z j = true) = 0 then L_CX_isOutdone_18 S (nI s) z a n (nI (j + 1)) else if y = a then L_CX_isOutdone_18 S (nI s) z a n (nI (j + 1)) else if (y &&& a) = a then some (.inr 1) else L_CX_isOutdone_18 S (nI s) z a n (nI (j + 1)) := by
      rw [L_CX_isOutdone_18, if_pos (inb_nI hs (by decide)), nI_clamp (show s < 2 ^ 31 by omega), ekc, if_neg (nI_ge (by omega) (by omega)), bitC S z (show j < 32 by omega), Option.bind_some, condAtC (T := T) hs (by omega) e1, Option.bind_some, y1, Option.bind_some, nI_1]
    rw [hu]
    have key : (hldT nS T (cdB T s j) c ∧ sbT nS T (cdB T s i) (cdB T s j) ∧ ¬ sbT nS T (cdB T s j) (cdB T s i)) ∨ ¬ (hldT nS T (cdB T s j) c ∧ sbT nS T (cdB T s i) (cdB T s j) ∧ ¬ sbT nS T (cdB T s j) (cdB T s i)) := Classical.em _
    rw [← eq] at y2
    rcases key with key | key
    · have k1 : bt z j = true := (hz j (by omega)).mpr ⟨by omega, key.1⟩
      have k2 : ¬ y = a := fun e => key.2.2 (fun b hb => ((mask_eq y2 ha).mp e b hb).mp)
      have k3 : (y &&& a) = a := (mask_sub y2 ha).mpr key.2.1
      rw [b2_t k1, if_neg one0, if_neg k2, if_pos k3]
      exact ⟨fun _ => rfl, fun o => absurd ⟨j, Nat.le_refl _, by omega, key⟩ o⟩
    · have hn' : (∃ l, j ≤ l ∧ l < k ∧ hldT nS T (cdB T s l) c ∧ sbT nS T (cdB T s i) (cdB T s l) ∧ ¬ sbT nS T (cdB T s l) (cdB T s i)) ↔ ∃ l, j + 1 ≤ l ∧ l < k ∧ hldT nS T (cdB T s l) c ∧ sbT nS T (cdB T s i) (cdB T s l) ∧ ¬ sbT nS T (cdB T s l) (cdB T s i) := by
        constructor
        · rintro ⟨l, l1, l2, l3⟩
          by_cases e : l = j
          · rw [e] at l3; exact absurd l3 key
          · exact ⟨l, by omega, l2, l3⟩
        · rintro ⟨l, l1, l2, l3⟩
          exact ⟨l, by omega, l2, l3⟩
      rw [hn']
      have fin : (if b2 (bt z j = true) = 0 then L_CX_isOutdone_18 S (nI s) z a n (nI (j + 1)) else if y = a then L_CX_isOutdone_18 S (nI s) z a n (nI (j + 1)) else if (y &&& a) = a then some (.inr 1) else L_CX_isOutdone_18 S (nI s) z a n (nI (j + 1))) = L_CX_isOutdone_18 S (nI s) z a n (nI (j + 1)) := by
        by_cases k1 : bt z j = true
        · rw [b2_t k1, if_neg one0]
          by_cases k2 : y = a
          · rw [if_pos k2]
          · rw [if_neg k2]
            by_cases k3 : (y &&& a) = a
            · exfalso
              have s1 := (mask_sub y2 ha).mp k3
              exact key ⟨((hz j (by omega)).mp k1).2, s1, fun s2 => k2 ((mask_eq y2 ha).mpr (fun b hb => ⟨s2 b hb, s1 b hb⟩))⟩
            · rw [if_neg k3]
        · rw [b2_f k1, if_pos rfl]
      rw [fin]
      exact ⟨g1, g2⟩
theorem outC {S : StC} {T : StM} {nS nP nK nQ nT nE nN s c i k : Nat} (h : RelB S T nS nP nK nQ nT nE nN) (hs : s < 24) (hk : k ≤ 8) (ekc : gA S 12 s = nI k) (hq : ∀ b, b < k → ∃ q : Nat, q < 40 ∧ gA S 13 (8 * s + b) = nI q ∧ gA T 12 (8 * s + b) = nI q) {z : Int32} (hz : Rep z (fun b => b < k ∧ hldT nS T (cdB T s b) c)) (hi : i < k) : m_CX_isOutdone S (nI s) (nI i) z = some (b2 (∃ l, l < k ∧ hldT nS T (cdB T s l) c ∧ sbT nS T (cdB T s i) (cdB T s l) ∧ ¬ sbT nS T (cdB T s l) (cdB T s i))) := by
  obtain ⟨q, hq40, e1, e2⟩ := hq i hi
  have eq : cdB T s i = q := by unfold cdB; rw [e2, nI_clamp (by omega)]
  obtain ⟨a, y1, y2⟩ := askedC h hq40
  rw [← eq] at y2
  obtain ⟨g1, g2⟩ := outC_l h hs hk ekc hq hz y2 k 0 100 (by omega) (by omega) (by omega)
  unfold m_CX_isOutdone
  rw [condAtC (T := T) hs (by omega) e1, Option.bind_some, y1, Option.bind_some]
  by_cases o : ∃ l, l < k ∧ hldT nS T (cdB T s l) c ∧ sbT nS T (cdB T s i) (cdB T s l) ∧ ¬ sbT nS T (cdB T s l) (cdB T s i)
  · rw [b2_t o]
    obtain ⟨l, l1, l2⟩ := o
    rw [show L_CX_isOutdone_18 S (nI s) z a 100 0 = _ from g1 ⟨l, Nat.zero_le _, l1, l2⟩]
    rfl
  · rw [b2_f o]
    rw [show L_CX_isOutdone_18 S (nI s) z a 100 0 = _ from g2 (fun ⟨l, _, l1, l2⟩ => o ⟨l, l1, l2⟩)]
    rfl
/-- the class's set of best BRANCHES -/
theorem bestC {S : StC} {T : StM} {nS nP nK nQ nT nE nN s c : Nat} {x : Int64} (h : RelB S T nS nP nK nQ nT nE nN) (hs : s < 24) (hr : RowX T nS nP c x) : ∃ y z, m_CX_holdingBranches S (nI s) x = some y ∧ m_CX_mostSpecialBranches S (nI s) y = some z ∧ Rep z (bestT nS T c s) := by
  obtain ⟨y, y1, y2⟩ := holdingC h hs hr
  obtain ⟨k, hk, ekc, ekm, hkb⟩ := selOf h hs
  have ek : (gA T 11 s).toNatClampNeg = k := by rw [ekm, nI_clamp (by omega)]
  rw [ek] at y2
  have hq : ∀ b, b < k → ∃ q : Nat, q < 40 ∧ gA S 13 (8 * s + b) = nI q ∧ gA T 12 (8 * s + b) = nI q := fun b hb => (hkb b hb).1
  have hq' : ∀ b, b < k → cdB T s b < 40 := fun b hb => by
    obtain ⟨q, h1, -, h3⟩ := hq b hb
    unfold cdB; rw [h3, nI_clamp (by omega)]; exact h1
  obtain ⟨z, g1, g2⟩ := bitG (fun n x' y' => L_CX_mostSpecialBranches_5 S (nI s) y n x' y') 0 k (fun i b => b = i ∧ hldT nS T (cdB T s i) c ∧ ¬ ∃ l, l < k ∧ hldT nS T (cdB T s l) c ∧ sbT nS T (cdB T s i) (cdB T s l) ∧ ¬ sbT nS T (cdB T s l) (cdB T s i)) (fun n x' => by
    simp only [Nat.zero_add]
    rw [L_CX_mostSpecialBranches_5, if_pos (inb_nI hs (by decide)), nI_clamp (by omega), ekc, if_pos (nI_le (by omega) (by omega))]) (fun n x' i P hi hP => by
    have hu : L_CX_mostSpecialBranches_5 S (nI s) y (n + 1) x' (nI i) = if b2 (bt y i = true) = 0 then L_CX_mostSpecialBranches_5 S (nI s) y n x' (nI (i + 1)) else if b2 (∃ l, l < k ∧ hldT nS T (cdB T s l) c ∧ sbT nS T (cdB T s i) (cdB T s l) ∧ ¬ sbT nS T (cdB T s l) (cdB T s i)) = 0 then L_CX_mostSpecialBranches_5 S (nI s) y n (x' ||| ((1 : Int32) <<< (nI i &&& 31))) (nI (i + 1)) else L_CX_mostSpecialBranches_5 S (nI s) y n x' (nI (i + 1)) := by
      rw [L_CX_mostSpecialBranches_5, if_pos (inb_nI hs (by decide)), nI_clamp (show s < 2 ^ 31 by omega), ekc, if_neg (nI_ge hi (by omega)), bitC S y (show i < 32 by omega), Option.bind_some, outC h hs hk ekc hq y2 hi, Option.bind_some, nI_1]
    simp only [Nat.zero_add]
    rw [hu]
    by_cases k1 : bt y i = true
    · rw [b2_t k1, if_neg one0]
      have k1' := ((y2 i (by omega)).mp k1).2
      by_cases o : ∃ l, l < k ∧ hldT nS T (cdB T s l) c ∧ sbT nS T (cdB T s i) (cdB T s l) ∧ ¬ sbT nS T (cdB T s l) (cdB T s i)
      · rw [b2_t o, if_neg one0]
        exact ⟨_, rfl, rep_iff hP (fun b _ => ⟨Or.inl, fun g => g.elim id (fun g => absurd o g.2.2)⟩)⟩
      · rw [b2_f o, if_pos rfl]
        exact ⟨_, rfl, rep_iff (rep_or hP (rep_1 (show i < 32 by omega))) (fun b _ => ⟨fun g => g.imp id (fun g => ⟨g, k1', o⟩), fun g => g.imp id (fun g => g.1)⟩)⟩
    · rw [b2_f k1, if_pos rfl]
      exact ⟨_, rfl, rep_iff hP (fun b _ => ⟨Or.inl, fun g => g.elim id (fun g => absurd ((y2 i (by omega)).mpr ⟨hi, g.2.1⟩) k1)⟩)⟩) k 0 100 0 (fun _ => False) (by omega) (by omega) (by omega) rep_0
  refine ⟨y, z, y1, ?_, rep_iff g2 (fun b _ => ?_)⟩
  · unfold m_CX_mostSpecialBranches
    rw [show L_CX_mostSpecialBranches_5 S (nI s) y 100 0 0 = _ from g1, Option.bind_some]
  · have conv : ∀ i l, i < k → l < k → hldT nS T (cdB T s i) c → hldT nS T (cdB T s l) c → ((sbT nS T (cdB T s i) (cdB T s l) ∧ ¬ sbT nS T (cdB T s l) (cdB T s i)) ↔ (hasT nS T (cdB T s l) (cdB T s i) ∧ ¬ hasT nS T (cdB T s i) (cdB T s l))) := fun i l hi hl oi ol => by
      rw [has_sub h (hq' l hl) (hq' i hi) hr ol oi, has_sub h (hq' i hi) (hq' l hl) hr oi ol]
    unfold bestT
    rw [ek]
    constructor
    · rintro (g | ⟨j, _, h2, rfl, h4, h5⟩)
      · exact g.elim
      · exact ⟨h2, h4, fun ⟨l, l1, l2, l3⟩ => h5 ⟨l, l1, l2, (conv b l h2 l1 h4 l2).mpr l3⟩⟩
    · rintro ⟨h2, h4, h5⟩
      exact Or.inr ⟨b, Nat.zero_le _, h2, rfl, h4, fun ⟨l, l1, l2, l3⟩ => h5 ⟨l, l1, l2, (conv b l h2 l1 h4 l2).mp l3⟩⟩
