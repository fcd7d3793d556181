/-! numbering CONFIGURATIONS -/
theorem andL (F : Nat → Int32 → Int32 → Option Int32) (base k : Nat) (Q : Nat → Prop) (hz : ∀ (n : Nat) (P : Prop), F (n + 1) (b2 P) (nI (base + k)) = some (b2 P)) (hs : ∀ (n : Nat) (P : Prop) (i : Nat), i < k → F (n + 1) (b2 P) (nI (base + i)) = F n (b2 (P ∧ Q i)) (nI (base + (i + 1)))) : ∀ (m i n : Nat) (P : Prop), m = k - i → i ≤ k → m < n → F n (b2 P) (nI (base + i)) = some (b2 (P ∧ ∀ b, i ≤ b → b < k → Q b)) := by
  intro m
  induction m with
  | zero =>
    intro i n P hm hj hn
    obtain ⟨n, rfl⟩ : ∃ k, n = k + 1 := ⟨n - 1, by omega⟩
    rw [show i = k by omega, hz]
    rw [b2_iff (P := P ∧ _) (Q := P) ⟨fun h => h.1, fun h => ⟨h, fun b h1 h2 => absurd h2 (by omega)⟩⟩]
  | succ m ih =>
    intro i n P hm hj hn
    obtain ⟨n, rfl⟩ : ∃ k, n = k + 1 := ⟨n - 1, by omega⟩
    rw [hs n P i (by omega), ih (i + 1) n _ (by omega) (by omega) (by omega)]
    congr 1
    apply b2_iff
    constructor
    · rintro ⟨⟨h1, h2⟩, h3⟩
      refine ⟨h1, fun b g1 g2 => ?_⟩
      by_cases e : b = i
      · rw [e]; exact h2
      · exact h3 b (by omega) g2
    · rintro ⟨h1, h2⟩
      exact ⟨⟨h1, h2 i (Nat.le_refl _) (by omega)⟩, fun b g1 g2 => h2 b (by omega) g2⟩
theorem b2_and1 {P Q : Prop} (h : P) (g : Q) : (1 : Int32) = b2 (P ∧ Q) := (b2_t ⟨h, g⟩).symm
theorem b2_and0 {P Q : Prop} (h : ¬ P) : (0 : Int32) = b2 (P ∧ Q) := (b2_f (fun c => h c.1)).symm
theorem b2_andr {P Q : Prop} (h : ¬ Q) : (0 : Int32) = b2 (P ∧ Q) := (b2_f (fun c => h c.2)).symm
/-- all but the PAIRS -/
def RelB (S : StC) (T : StM) (nS nP nK nQ nT nE nN : Nat) : Prop :=
  (nS ≤ 16 ∧ gI S 0 = nI nS ∧ gI T 0 = nI nS) ∧ (nP ≤ 8 ∧ gI S 1 = nI nP ∧ gI T 1 = nI nP) ∧ (nK ≤ 60 ∧ gI S 2 = nI nK ∧ gI T 2 = nI nK) ∧ (nQ ≤ 40 ∧ gI S 3 = nI nQ ∧ gI T 3 = nI nQ) ∧ (nT ≤ 16 ∧ gI S 4 = nI nT ∧ gI T 5 = nI nT) ∧ (nE ≤ 24 ∧ gI S 5 = nI nE ∧ gI T 4 = nI nE) ∧ (nN ≤ 40 ∧ gI S 6 = nI nN ∧ gI T 6 = nI nN) ∧
  RSet nS (gA S 0) (gA S 1) (gA S 2) (gA T 0) (gA T 1) (gA T 2) ∧ RPlat (gA S 3) (gA T 3) ∧ RConf nS nP nK (gB S 0) (gA T 0) (gA T 4) (gA T 5) ∧ RCond nS nQ (gA S 4) (gA S 5) (gA T 6) (gA T 7) (gA T 8) (gA T 9) ∧ RUsed nE (gA S 6) (gA T 18) (gA T 11) (gA T 12) ∧ RTar nT nQ (gA S 7) (gA T 17) ∧
  RSelA nE nQ (gA S 12) (gA S 13) (gA S 14) (gA S 15) (gA T 10) (gA T 11) (gA T 12) (gA T 15) (gA T 13) ∧ RSelT nE nT (gA S 9) (gA T 10) ∧ RSelO nE (gB S 1) (gA T 16) (gA T 14) ∧ RSelW nE (gA S 10) (gA T 11) (gA T 15) (gA T 13) ∧ RSelH (gA S 11) (gA T 11) (gA T 15) ∧
  RNeed nN nT nS (gA S 16) (gA S 17) (gA S 18) (gA S 19) (gA S 20) (gA T 19) (gA T 20) (gA T 21) (gA T 22) (gA T 23) ∧ RCho (gL S 0) (gI T 7) (gI T 8) (gI T 9) (gI T 10)
def RelP (S : StC) (T : StM) (nR : Nat) : Prop := (nR ≤ 60 ∧ gI S 7 = nI nR ∧ gI T 15 = nI nR) ∧ RPair nR (gA S 21) (gA S 22) (gA S 23) (gA T 24) (gA T 25) (gA T 26)
theorem rel_B {S : StC} {T : StM} {nS nP nK nQ nT nE nN nR : Nat} (h : RelN S T nS nP nK nQ nT nE nN nR) : RelB S T nS nP nK nQ nT nE nN ∧ RelP S T nR := by
  obtain ⟨hS, hP, hK, hQ, hT, hE, hN, hR, r1, r2, r3, r4, r5, r6, r7, r8, r9, r10, r11, r12, r13, r14⟩ := h
  exact ⟨⟨hS, hP, hK, hQ, hT, hE, hN, r1, r2, r3, r4, r5, r6, r7, r8, r9, r10, r11, r12, r14⟩, hR, r13⟩
theorem rel_N {S : StC} {T : StM} {nS nP nK nQ nT nE nN nR : Nat} (h : RelB S T nS nP nK nQ nT nE nN) (g : RelP S T nR) : Rel S T := by
  obtain ⟨hS, hP, hK, hQ, hT, hE, hN, r1, r2, r3, r4, r5, r6, r7, r8, r9, r10, r11, r12, r14⟩ := h
  obtain ⟨hR, r13⟩ := g
  exact ⟨nS, nP, nK, nQ, nT, nE, nN, nR, hS, hP, hK, hQ, hT, hE, hN, hR, r1, r2, r3, r4, r5, r6, r7, r8, r9, r10, r11, r12, r13, r14⟩
/-- what a numbering leaves alone -/
def FrC (S S' : StC) (nK : Nat) : Prop := (∀ k, gA S' k = gA S k) ∧ (∀ k, ¬ k = 2 → gI S' k = gI S k) ∧ (∀ k, ¬ k = 0 → gB S' k = gB S k) ∧ ∀ c, c < nK → gB S' 0 c = gB S 0 c
def FrM (T T' : StM) (nK : Nat) : Prop := (∀ k, ¬ k = 4 → ¬ k = 5 → gA T' k = gA T k) ∧ (∀ k, ¬ k = 2 → gI T' k = gI T k) ∧ (∀ c, c < nK → gA T' 4 c = gA T 4 c) ∧ (∀ x, x < 16 * nK → gA T' 5 x = gA T 5 x)
theorem copy_l (T : StM) (a b : Nat) (ha : a ≤ 60) (hb : b ≤ 60) (hab : ¬ a = b) : ∀ (m i n : Nat) (g : Nat → Int32), m = 16 - i → i ≤ 16 → m < n → L_MX_copy_14 (nI a) (nI b) n (pA T 5 g) (nI i) = some (pA T 5 (fun x => if 16 * b + i ≤ x ∧ x < 16 * b + 16 then g (16 * a + (x - 16 * b)) else g x)) := by
  intro m
  induction m with
  | zero =>
    intro i n g hm hi hn
    obtain ⟨n, rfl⟩ : ∃ k, n = k + 1 := ⟨n - 1, by omega⟩
    rw [L_MX_copy_14, if_pos (show (16 : Int32) ≤ nI i from nI_le (a := 16) (by omega) (by omega))]
    congr 2
    funext x
    rw [if_neg (by omega)]
  | succ m ih =>
    intro i n g hm hi hn
    obtain ⟨n, rfl⟩ : ∃ k, n = k + 1 := ⟨n - 1, by omega⟩
    rw [L_MX_copy_14, if_neg (show ¬ (16 : Int32) ≤ nI i from nI_ge (b := 16) (by omega) (by decide)), ixm16, ixm16, if_pos (inb_nI (show 16 * a + i < 976 by omega) (by decide)), if_pos (inb_nI (show 16 * b + i < 976 by omega) (by decide)), tA_pA, gA_ps, nI_clamp (show 16 * b + i < 2 ^ 31 by omega), nI_clamp (show 16 * a + i < 2 ^ 31 by omega), nI_1, ih (i + 1) n _ (by omega) (by omega) (by omega)]
    congr 2
    funext x
    rw [upd_e, upd_e]
    by_cases c1 : x = 16 * b + i
    · rw [if_neg (by omega), if_pos c1, if_pos (by omega), c1]
      congr 1
      omega
    · rw [if_neg c1]
      by_cases c2 : 16 * b + (i + 1) ≤ x ∧ x < 16 * b + 16
      · rw [if_pos c2, if_neg (by omega), if_pos (by omega)]
      · rw [if_neg c2, if_neg (by omega)]
/-- the state behind copy -/
def cpd (T : StM) (a b : Nat) : StM := pA (pA T 4 (upd (gA T 4) b (gA T 4 a))) 5 (fun x => if 16 * b + 0 ≤ x ∧ x < 16 * b + 16 then gA T 5 (16 * a + (x - 16 * b)) else gA T 5 x)
theorem copyM (T : StM) {a b : Nat} (ha : a ≤ 60) (hb : b ≤ 60) (hab : ¬ a = b) : m_MX_copy T (nI a) (nI b) = some (cpd T a b) := by
  have h := copy_l (tA T 4 (nI b) (gA T 4 a)) a b ha hb hab 16 0 100 (gA (tA T 4 (nI b) (gA T 4 a)) 5) (by omega) (by omega) (by omega)
  rw [pA_self] at h
  unfold m_MX_copy
  rw [if_pos (inb_nI (show a < 61 by omega) (by decide)), if_pos (inb_nI (show b < 61 by omega) (by decide)), nI_clamp (by omega), show (0 : Int32) = nI 0 from rfl, h, Option.bind_some]
  congr 1
  show pA (pA T 4 (upd (gA T 4) (nI b).toNatClampNeg (gA T 4 a))) 5 _ = _
  rw [nI_clamp (by omega)]
  rfl
theorem alikeM {T : StM} {nS c : Nat} (hS : nS ≤ 16) (hSm : gI T 0 = nI nS) (hc : c ≤ 60) : m_MX_isAlike T (nI c) 60 = some (b2 (gA T 4 c = gA T 4 60 ∧ ∀ s, s < nS → gA T 0 s = -1 → gA T 5 (16 * c + s) = gA T 5 (16 * 60 + s))) := by
  have h := fun P => andL (fun n x y => L_MX_isAlike_24 T (nI c) (nI 60) n x y) 0 nS (fun s => gA T 0 s = -1 → gA T 5 (16 * c + s) = gA T 5 (16 * 60 + s)) (fun n P => by
    simp only [L_MX_isAlike_24, hSm, Nat.zero_add]
    rw [if_pos (nI_le (by omega) (by omega))]) (fun n P i hi => by
    simp only [L_MX_isAlike_24, hSm, Nat.zero_add]
    rw [if_neg (nI_ge hi (by omega)), nI_1]
    by_cases hP : P
    · rw [b2_t hP, if_neg one0, if_pos (inb_nI (show i < 16 by omega) (by decide)), nI_clamp (by omega)]
      by_cases c1 : gA T 0 i = -1
      · rw [if_pos c1, ixm16, ixm16, if_pos (inb_nI (show 16 * c + i < 976 by omega) (by decide)), if_pos (inb_nI (show 16 * 60 + i < 976 by omega) (by decide)), nI_clamp (by omega), nI_clamp (by omega)]
        by_cases c2 : gA T 5 (16 * c + i) = gA T 5 (16 * 60 + i)
        · rw [if_pos c2, ← b2_and1 hP (fun _ => c2)]
        · rw [if_neg c2, ← b2_andr (fun h => c2 (h c1))]
      · rw [if_neg c1, ← b2_and1 hP (fun h => absurd h c1)]
    · rw [b2_f hP, if_pos rfl, ← b2_and0 hP]) nS 0 100 P (by omega) (by omega) (by omega)
  unfold m_MX_isAlike
  rw [show (60 : Int32) = nI 60 from rfl, if_pos (inb_nI (show c < 61 by omega) (by decide)), if_pos (inb_nI (show 60 < 61 by omega) (by decide)), nI_clamp (show c < 2 ^ 31 by omega), nI_clamp (show 60 < 2 ^ 31 by omega)]
  by_cases e : gA T 4 c = gA T 4 60
  · have h1 := h True
    rw [b2_t trivial] at h1
    rw [if_pos e, show L_MX_isAlike_24 T (nI c) (nI 60) 100 1 0 = _ from h1, Option.bind_some, if_pos (b2_isB _)]
    congr 1
    apply b2_iff
    exact ⟨fun ⟨_, g⟩ => ⟨e, fun s h1 h2 => g s (Nat.zero_le _) h1 h2⟩, fun ⟨_, g⟩ => ⟨trivial, fun s _ h1 h2 => g s h1 h2⟩⟩
  · have h1 := h False
    rw [b2_f id] at h1
    rw [if_neg e, show L_MX_isAlike_24 T (nI c) (nI 60) 100 0 0 = _ from h1, Option.bind_some, if_pos (b2_isB _)]
    congr 1
    apply b2_iff
    exact ⟨fun ⟨g, _⟩ => g.elim, fun ⟨g, _⟩ => absurd g e⟩
theorem rowV_at {n : Nat} {ma mv : Nat → Int32} {c s : Nat} (hs : s < n) (hm : ma s = -1) : rowV n ma mv c s = (mv (16 * c + s)).toNatClampNeg := by unfold rowV; rw [if_pos ⟨hs, hm⟩]
/-- like rows have one code, and the reverse -/
theorem alike_iff {nS nP : Nat} {ma mp mv : Nat → Int32} {c d : Nat} {x y : Int64} (hP : nP ≤ 8) (hS : nS ≤ 16) (rc : RRow nS nP ma mp mv c) (rd : RRow nS nP ma mp mv d) (ec : Enc x (mp c).toNatClampNeg (rowV nS ma mv c)) (ed : Enc y (mp d).toNatClampNeg (rowV nS ma mv d)) : x = y ↔ mp c = mp d ∧ ∀ s, s < nS → ma s = -1 → mv (16 * c + s) = mv (16 * d + s) := by
  obtain ⟨p, hp, ep⟩ := rc.1
  obtain ⟨q, hq, eq⟩ := rd.1
  constructor
  · intro e
    subst e
    obtain ⟨h1, h2⟩ := enc_inj ec ed (by rw [ep, nI_clamp (by omega)]; omega) (by rw [eq, nI_clamp (by omega)]; omega) (fun s _ => rowV_lt rc s) (fun s _ => rowV_lt rd s)
    rw [ep, eq, nI_clamp (by omega), nI_clamp (by omega)] at h1
    refine ⟨by rw [ep, eq, h1], fun s hs hm => ?_⟩
    have h3 := h2 s (by omega)
    rw [rowV_at hs hm, rowV_at hs hm] at h3
    obtain ⟨v, hv, e1⟩ := rc.2 s hs hm
    obtain ⟨w, hw, e2⟩ := rd.2 s hs hm
    rw [e1, e2, nI_clamp (by omega), nI_clamp (by omega)] at h3
    rw [e1, e2, h3]
  · rintro ⟨h1, h2⟩
    rw [h1] at ec
    refine enc_ext ec (enc_f ed (fun s _ => ?_))
    unfold rowV
    by_cases c1 : s < nS ∧ ma s = -1
    · rw [if_pos c1, if_pos c1, h2 s c1.1 c1.2]
    · rw [if_neg c1, if_neg c1]
theorem numC_l (S : StC) (nK : Nat) (x : Int64) (hK : nK ≤ 60) (hKc : gI S 2 = nI nK) : ∀ (m i n : Nat), m = nK - i → i ≤ nK → m < n → ((∀ c, i ≤ c → c < nK → ¬ gB S 0 c = x) → L_CConfigurations_numberOf_2 S x n (nI i) = some (.inl ())) ∧ (∀ c, i ≤ c → c < nK → gB S 0 c = x → (∀ d, i ≤ d → d < c → ¬ gB S 0 d = x) → L_CConfigurations_numberOf_2 S x n (nI i) = some (.inr (nI c, S))) := by
  intro m
  induction m with
  | zero =>
    intro i n hm hi hn
    obtain ⟨n, rfl⟩ : ∃ k, n = k + 1 := ⟨n - 1, by omega⟩
    refine ⟨fun _ => ?_, fun c h1 h2 => absurd h2 (by omega)⟩
    rw [L_CConfigurations_numberOf_2, hKc, if_pos (nI_le (by omega) (by omega))]
  | succ m ih =>
    intro i n hm hi hn
    obtain ⟨n, rfl⟩ : ∃ k, n = k + 1 := ⟨n - 1, by omega⟩
    obtain ⟨g1, g2⟩ := ih (i + 1) n (by omega) (by omega) (by omega)
    have hh : L_CConfigurations_numberOf_2 S x (n + 1) (nI i) = if gB S 0 i = x then some (.inr (nI i, S)) else L_CConfigurations_numberOf_2 S x n (nI (i + 1)) := by
      rw [L_CConfigurations_numberOf_2, hKc, if_neg (nI_ge (by omega) (by omega)), if_pos (inb_nI (show i < 60 by omega) (by decide)), nI_clamp (by omega), nI_1]
      by_cases e : gB S 0 i = x
      · rw [if_pos e, if_pos ((lg_cmp_eq _ _).mpr e)]
      · rw [if_neg e, if_neg (fun h => e ((lg_cmp_eq _ _).mp h))]
    rw [hh]
    refine ⟨fun h => ?_, fun c c1 c2 c3 c4 => ?_⟩
    · rw [if_neg (h i (Nat.le_refl _) (by omega))]
      exact g1 (fun c h1 h2 => h c (by omega) h2)
    · by_cases e : c = i
      · subst e; rw [if_pos c3]
      · rw [if_neg (c4 i (Nat.le_refl _) (by omega))]
        exact g2 c (by omega) c2 c3 (fun d h1 h2 => c4 d (by omega) h2)
theorem numM_l (T : StM) (nS nK : Nat) (hS : nS ≤ 16) (hSm : gI T 0 = nI nS) (hK : nK ≤ 60) (hKm : gI T 2 = nI nK) : ∀ (m i n : Nat), m = nK - i → i ≤ nK → m < n → ((∀ c, i ≤ c → c < nK → ¬ (gA T 4 c = gA T 4 60 ∧ ∀ s, s < nS → gA T 0 s = -1 → gA T 5 (16 * c + s) = gA T 5 (16 * 60 + s))) → L_MX_numbered_2 T n (nI i) = some (.inl ())) ∧ (∀ c, i ≤ c → c < nK → (gA T 4 c = gA T 4 60 ∧ ∀ s, s < nS → gA T 0 s = -1 → gA T 5 (16 * c + s) = gA T 5 (16 * 60 + s)) → (∀ d, i ≤ d → d < c → ¬ (gA T 4 d = gA T 4 60 ∧ ∀ s, s < nS → gA T 0 s = -1 → gA T 5 (16 * d + s) = gA T 5 (16 * 60 + s))) → L_MX_numbered_2 T n (nI i) = some (.inr (nI c, T))) := by
  intro m
  induction m with
  | zero =>
    intro i n hm hi hn
    obtain ⟨n, rfl⟩ : ∃ k, n = k + 1 := ⟨n - 1, by omega⟩
    refine ⟨fun _ => ?_, fun c h1 h2 => absurd h2 (by omega)⟩
    rw [L_MX_numbered_2, hKm, if_pos (nI_le (by omega) (by omega))]
  | succ m ih =>
    intro i n hm hi hn
    obtain ⟨n, rfl⟩ : ∃ k, n = k + 1 := ⟨n - 1, by omega⟩
    obtain ⟨g1, g2⟩ := ih (i + 1) n (by omega) (by omega) (by omega)
    have hu : L_MX_numbered_2 T (n + 1) (nI i) = if b2 (gA T 4 i = gA T 4 60 ∧ ∀ s, s < nS → gA T 0 s = -1 → gA T 5 (16 * i + s) = gA T 5 (16 * 60 + s)) = 0 then L_MX_numbered_2 T n (nI (i + 1)) else some (.inr (nI i, T)) := by
      rw [L_MX_numbered_2, hKm, if_neg (nI_ge (by omega) (by omega)), alikeM hS hSm (show i ≤ 60 by omega), Option.bind_some, nI_1]
    rw [hu]
    refine ⟨fun h => ?_, fun c c1 c2 c3 c4 => ?_⟩
    · rw [if_pos (b2_0.mpr (h i (Nat.le_refl _) (by omega)))]
      exact g1 (fun c h1 h2 => h c (by omega) h2)
    · by_cases e : c = i
      · subst e; rw [if_neg (fun h => b2_0.mp h c3)]
      · rw [if_pos (b2_0.mpr (c4 i (Nat.le_refl _) (by omega)))]
        exact g2 c (by omega) c2 c3 (fun d h1 h2 => c4 d (by omega) h2)
/-- a number for the CONFIGURATION in the last row, whose code is x -/
theorem numbering {S : StC} {T : StM} {nS nP nK nQ nT nE nN : Nat} (h : RelB S T nS nP nK nQ nT nE nN) {x : Int64} (rr : RRow nS nP (gA T 0) (gA T 4) (gA T 5) 60) (ex : Enc x (gA T 4 60).toNatClampNeg (rowV nS (gA T 0) (gA T 5) 60)) :
    ∃ (r : Int32) (S' : StC) (T' : StM) (nK' : Nat), m_CConfigurations_numberOf S x = some (r, S') ∧ m_MX_numbered T = some (r, T') ∧ RelB S' T' nS nP nK' nQ nT nE nN ∧ nK ≤ nK' ∧ FrC S S' nK ∧ FrM T T' nK ∧ (r = -1 ∨ ∃ c : Nat, c < nK' ∧ r = nI c ∧ gB S' 0 c = x) := by
  have h0 := h
  obtain ⟨⟨hS, hSc, hSm⟩, ⟨hP, hPc, hPm⟩, ⟨hK, hKc, hKm⟩, hQ, hT, hE, hN, r1, r2, r3, r4, r5, r6, r7, r8, r9, r10, r11, r12, r14⟩ := h
  have hal : ∀ c, c < nK → (gB S 0 c = x ↔ gA T 4 c = gA T 4 60 ∧ ∀ s, s < nS → gA T 0 s = -1 → gA T 5 (16 * c + s) = gA T 5 (16 * 60 + s)) := fun c hc => alike_iff hP hS (r3 c hc).1 rr (r3 c hc).2 ex
  obtain ⟨p1, p2⟩ := numC_l S nK x hK hKc nK 0 100 (by omega) (by omega) (by omega)
  obtain ⟨m1, m2⟩ := numM_l T nS nK hS hSm hK hKm nK 0 100 (by omega) (by omega) (by omega)
  have frC : FrC S S nK := ⟨fun _ => rfl, fun _ _ => rfl, fun _ _ => rfl, fun _ _ => rfl⟩
  have frM : FrM T T nK := ⟨fun _ _ _ => rfl, fun _ _ => rfl, fun _ _ => rfl, fun _ _ => rfl⟩
  by_cases hx : ∃ c, c < nK ∧ gB S 0 c = x
  · obtain ⟨c, ⟨c1, c2⟩, c3⟩ := pk_least (fun c => c < nK ∧ gB S 0 c = x) hx
    have c4 : ∀ d, d < c → ¬ gB S 0 d = x := fun d hd e => c3 d hd ⟨by omega, e⟩
    refine ⟨nI c, S, T, nK, ?_, ?_, h0, Nat.le_refl _, frC, frM, Or.inr ⟨c, c1, rfl, c2⟩⟩
    · unfold m_CConfigurations_numberOf
      rw [show L_CConfigurations_numberOf_2 S x 100 0 = _ from p2 c (Nat.zero_le _) c1 c2 (fun d _ hd => c4 d hd)]
      rfl
    · unfold m_MX_numbered
      rw [show L_MX_numbered_2 T 100 0 = _ from m2 c (Nat.zero_le _) c1 ((hal c c1).mp c2) (fun d _ hd e => c4 d hd ((hal d (by omega)).mpr e))]
      rfl
  · have hn : ∀ c, 0 ≤ c → c < nK → ¬ gB S 0 c = x := fun c _ h1 h2 => hx ⟨c, h1, h2⟩
    have hn' := m1 (fun c h1 h2 e => hn c h1 h2 ((hal c h2).mpr e))
    by_cases hf : nK = 60
    · subst hf
      refine ⟨-1, S, T, 60, ?_, ?_, h0, Nat.le_refl _, frC, frM, Or.inl rfl⟩
      · unfold m_CConfigurations_numberOf
        rw [show L_CConfigurations_numberOf_2 S x 100 0 = _ from p1 hn, Option.bind_some]
        simp only [exK, hKc]
        rfl
      · unfold m_MX_numbered
        rw [show L_MX_numbered_2 T 100 0 = _ from hn', Option.bind_some]
        simp only [exK, hKm]
        rfl
    · have hlt : nK < 60 := by omega
      have h1 : nI nK < (60 : Int32) := nI_lt (b := 60) hlt (by decide)
      have h2 : ¬ nI nK = (60 : Int32) := fun e => hf (nI_inj (b := 60) (by omega) (by decide) e)
      have b1 : inb (nI nK) 60 = true := inb_nI hlt (by decide)
      have en := nI_clamp (show nK < 2 ^ 31 by omega)
      have gB' : ∀ c, gB (sI (tB S 0 (nI nK) x) 2 (nI nK + 1)) 0 c = if c = nK then x else gB S 0 c := fun c => by
        show vp_updL (gB S 0) (nI nK).toNatClampNeg x c = _
        rw [en, updL_e]
      have g4 : gA (sI (cpd T 60 nK) 2 (nI nK + 1)) 4 = upd (gA T 4) nK (gA T 4 60) := rfl
      have g5 : gA (sI (cpd T 60 nK) 2 (nI nK + 1)) 5 = fun x => if 16 * nK + 0 ≤ x ∧ x < 16 * nK + 16 then gA T 5 (16 * 60 + (x - 16 * nK)) else gA T 5 x := rfl
      have v5 : ∀ s, s < 16 → gA (sI (cpd T 60 nK) 2 (nI nK + 1)) 5 (16 * nK + s) = gA T 5 (16 * 60 + s) := fun s hs => by
        rw [g5]; dsimp only
        rw [if_pos (by omega)]
        congr 1; omega
      have o5 : ∀ x, ¬ (16 * nK ≤ x ∧ x < 16 * nK + 16) → gA (sI (cpd T 60 nK) 2 (nI nK + 1)) 5 x = gA T 5 x := fun x hx => by
        rw [g5]; dsimp only
        rw [if_neg (by omega)]
      refine ⟨nI nK, sI (tB S 0 (nI nK) x) 2 (nI nK + 1), sI (cpd T 60 nK) 2 (nI nK + 1), nK + 1, ?_, ?_, ⟨⟨hS, hSc, hSm⟩, ⟨hP, hPc, hPm⟩, ⟨hlt, nI_1 nK, nI_1 nK⟩, hQ, hT, hE, hN, r1, r2, ?_, r4, r5, r6, r7, r8, r9, r10, r11, r12, r14⟩, by omega, ?_, ?_, Or.inr ⟨nK, by omega, rfl, by rw [gB', if_pos rfl]⟩⟩
      · unfold m_CConfigurations_numberOf
        rw [show L_CConfigurations_numberOf_2 S x 100 0 = _ from p1 hn, Option.bind_some]
        simp only [exK, hKc, if_pos h1, b1, if_true]
      · unfold m_MX_numbered
        rw [show L_MX_numbered_2 T 100 0 = _ from hn', Option.bind_some]
        simp only [exK, hKm, if_neg h2]
        rw [show (60 : Int32) = nI 60 from rfl, copyM T (show 60 ≤ 60 by omega) hK (by omega), Option.bind_some]
        show some (gI T 2 + 1 - 1, sI _ 2 (gI T 2 + 1)) = _
        rw [hKm, inc_dec]
      · intro c hc
        rw [gB']
        show RRow nS nP (gA T 0) _ _ c ∧ Enc _ _ (rowV nS (gA T 0) _ c)
        by_cases e : c = nK
        · subst e
          rw [if_pos rfl]
          have e4 : gA (sI (cpd T 60 c) 2 (nI c + 1)) 4 c = gA T 4 60 := by rw [g4, upd_e, if_pos rfl]
          refine ⟨⟨by rw [e4]; exact rr.1, fun s hs hm => by rw [v5 s (by omega)]; exact rr.2 s hs hm⟩, ?_⟩
          rw [e4]
          refine enc_f ex (fun s hs => ?_)
          unfold rowV
          by_cases c1 : s < nS ∧ gA T 0 s = -1
          · rw [if_pos c1, if_pos c1, v5 s hs]
          · rw [if_neg c1, if_neg c1]
        · rw [if_neg e]
          have e4 : gA (sI (cpd T 60 nK) 2 (nI nK + 1)) 4 c = gA T 4 c := by rw [g4, upd_e, if_neg e]
          obtain ⟨q1, q2⟩ := r3 c (by omega)
          refine ⟨⟨by rw [e4]; exact q1.1, fun s hs hm => by rw [o5 _ (by omega)]; exact q1.2 s hs hm⟩, ?_⟩
          rw [e4]
          refine enc_f q2 (fun s hs => ?_)
          unfold rowV
          by_cases c1 : s < nS ∧ gA T 0 s = -1
          · rw [if_pos c1, if_pos c1, o5 _ (by omega)]
          · rw [if_neg c1, if_neg c1]
      · refine ⟨fun _ => rfl, fun k hk => ?_, fun k hk => ?_, fun c hc => ?_⟩
        · rw [gI_sI, if_neg hk]; rfl
        · show (if k = 0 then _ else gB S k) = _
          rw [if_neg hk]
        · rw [gB', if_neg (by omega)]
      · refine ⟨fun k k4 k5 => ?_, fun k hk => ?_, fun c hc => ?_, fun x hx => o5 x (by omega)⟩
        · show va_up (va_up T.2.2.1 4 _) 5 _ k = T.2.2.1 k
          unfold va_up
          rw [if_neg k5, if_neg k4]
        · rw [gI_sI, if_neg hk]; rfl
        · rw [g4, upd_e, if_neg (by omega)]
