/-! sets of bits -/
def Rep (x : Int32) (P : Nat → Prop) : Prop := ∀ i, i < 32 → (bt x i = true ↔ P i)
theorem rep_or {x y : Int32} {P Q : Nat → Prop} (h : Rep x P) (g : Rep y Q) : Rep (x ||| y) (fun i => P i ∨ Q i) := fun i hi => by
  rw [b_or, Bool.or_eq_true, h i hi, g i hi]
theorem rep_0 : Rep 0 (fun _ => False) := fun i _ => by rw [b_0]; exact ⟨fun h => (by cases h), False.elim⟩
theorem bt_1 (i : Nat) (hi : i < 32) : bt 1 i = decide (i = 0) := by
  have : ∀ i : Fin 32, bt 1 i.val = decide (i.val = 0) := by decide
  exact this ⟨i, hi⟩
theorem rep_1 {b : Nat} (hb : b < 32) : Rep ((1 : Int32) <<< (nI b &&& 31)) (fun i => i = b) := fun i hi => by
  rw [b_shl b hb 1 hi]
  by_cases c : b ≤ i
  · rw [bt_1 _ (by omega)]
    simp [c]
    omega
  · simp [c]
    omega
theorem rep_ext {x y : Int32} {P Q : Nat → Prop} (h : Rep x P) (g : Rep y Q) (e : ∀ i, i < 32 → (P i ↔ Q i)) : x = y := by
  apply b_ext
  intro i hi
  have := (h i hi).trans ((e i hi).trans (g i hi).symm)
  cases hx : bt x i <;> cases hy : bt y i <;> simp_all
theorem rep_iff {x : Int32} {P Q : Nat → Prop} (h : Rep x P) (e : ∀ i, i < 32 → (P i ↔ Q i)) : Rep x Q := fun i hi => (h i hi).trans (e i hi)
theorem rep_low {x : Int32} {P : Nat → Prop} (h : Rep x P) : Rep (x &&& 65535) (fun i => P i ∧ i < 16) := fun i hi => by
  rw [b_and, b_65535, Bool.and_eq_true, h i hi, decide_eq_true_eq]
/-- a loop that gathers bits -/
theorem bitL (F : Nat → Int32 → Int32 → Option Int32) (base k : Nat) (Q : Nat → Nat → Prop) (hz : ∀ (n : Nat) (x : Int32), F (n + 1) x (nI (base + k)) = some x) (hs : ∀ (n : Nat) (x : Int32) (i : Nat), i < k → ∃ y, F (n + 1) x (nI (base + i)) = F n (x ||| y) (nI (base + (i + 1))) ∧ Rep y (Q i)) : ∀ (m i n : Nat) (x : Int32) (P : Nat → Prop), m = k - i → i ≤ k → m < n → Rep x P → ∃ z, F n x (nI (base + i)) = some z ∧ Rep z (fun b => P b ∨ ∃ j, i ≤ j ∧ j < k ∧ Q j b) := by
  intro m
  induction m with
  | zero =>
    intro i n x P hm hi hn hP
    obtain ⟨n, rfl⟩ : ∃ k, n = k + 1 := ⟨n - 1, by omega⟩
    refine ⟨x, by rw [show i = k by omega, hz], rep_iff hP (fun b _ => ⟨Or.inl, fun h => h.elim id (fun ⟨j, h1, h2, _⟩ => absurd h2 (by omega))⟩)⟩
  | succ m ih =>
    intro i n x P hm hi hn hP
    obtain ⟨n, rfl⟩ : ∃ k, n = k + 1 := ⟨n - 1, by omega⟩
    obtain ⟨y, e, hy⟩ := hs n x i (by omega)
    obtain ⟨z, g1, g2⟩ := ih (i + 1) n (x ||| y) _ (by omega) (by omega) (by omega) (rep_or hP hy)
    refine ⟨z, e.trans g1, rep_iff g2 (fun b _ => ?_)⟩
    constructor
    · rintro ((h | h) | ⟨j, h1, h2, h3⟩)
      · exact Or.inl h
      · exact Or.inr ⟨i, Nat.le_refl _, by omega, h⟩
      · exact Or.inr ⟨j, by omega, h2, h3⟩
    · rintro (h | ⟨j, h1, h2, h3⟩)
      · exact Or.inl (Or.inl h)
      · by_cases c : j = i
        · rw [c] at h3; exact Or.inl (Or.inr h3)
        · exact Or.inr ⟨j, by omega, h2, h3⟩
/-- what an ASKING is about, as a bit: a BASE, or an AXIS above them -/
def abT (nS : Nat) (T : StM) (i b : Nat) : Prop := (gA T 9 i = 0 ∧ b < 16 ∧ bas nS (gA T 0) (gA T 7 i) = nI b) ∨ (¬ gA T 9 i = 0 ∧ 16 ≤ b ∧ b < 24 ∧ gA T 7 i = nI (b - 16))
def amT (nS : Nat) (T : StM) (q b : Nat) : Prop := ∃ j, j < (gA T 6 q).toNatClampNeg ∧ abT nS T (6 * q + j) b
/-- what a program of the class reads of an ASKING -/
theorem parC {S : StC} {T : StM} {nS i : Nat} (hS : nS ≤ 16) (ha : askP S T nS i) : ∃ w : Nat, gA T 7 i = nI w ∧ w < 16 ∧ m_CAskings_whichOf S (gA S 5 i) = some (nI w) ∧ ((gA T 9 i = 0 ∧ m_CAskings_isAboutAxis S (gA S 5 i) = some 0) ∨ (gA T 9 i = 1 ∧ w < 8 ∧ m_CAskings_isAboutAxis S (gA S 5 i) = some 1)) := by
  obtain ⟨w, v, hv, ew, ev, h⟩ := ha
  rcases h with ⟨h1, h2, h3⟩ | ⟨h1, h2, h3⟩
  · have d1 : nI (8 * w + v) < (128 : Int32) := nI_lt (b := 128) (by omega) (by decide)
    have w1 : m_CAskings_isAboutAxis S (gA S 5 i) = some 0 := by rw [h3]; exact if_pos d1
    refine ⟨w, ew, by omega, ?_, Or.inl ⟨h1, w1⟩⟩
    unfold m_CAskings_whichOf
    rw [w1, Option.bind_some, if_pos rfl, h3, div8 (by omega), show (8 * w + v) / 8 = w by omega]
  · generalize hN : 128 + 8 * w + v = N at h3
    have d1 : ¬ nI N < (128 : Int32) := nI_nlt (b := 128) (by omega) (by omega)
    have e1 : (nI N - (128 : Int32)) / 8 = nI w := by
      have : nI N = nI (8 * w + v) + nI 128 := by rw [nI_add, show 8 * w + v + 128 = N by omega]
      rw [this, show (128 : Int32) = nI 128 from rfl, Int32.add_sub_cancel, div8 (by omega), show (8 * w + v) / 8 = w by omega]
    have w1 : m_CAskings_isAboutAxis S (gA S 5 i) = some 1 := by rw [h3]; exact if_neg d1
    refine ⟨w, ew, by omega, ?_, Or.inr ⟨h1, h2, w1⟩⟩
    unfold m_CAskings_whichOf
    rw [w1, Option.bind_some, if_neg one0, h3, e1]
theorem askedC {S : StC} {T : StM} {nS nP nK nQ nT nE nN q : Nat} (h : RelB S T nS nP nK nQ nT nE nN) (hq : q < 40) : ∃ z, m_CX_askedBy S (nI q) = some z ∧ Rep z (amT nS T q) := by
  obtain ⟨⟨hS, hSc, hSm⟩, ⟨hP, hPc, hPm⟩, hK, hQ, hT, hE, hN, r1, r2, r3, r4, -⟩ := h
  obtain ⟨k, hk, ekc, ekm, hk0, hkj⟩ := r4 q hq
  have ek : (gA T 6 q).toNatClampNeg = k := by rw [ekm, nI_clamp (by omega)]
  obtain ⟨z, g1, g2⟩ := bitL (fun n x y => L_CX_askedBy_4 S (nI q) n x y) 0 k (fun j b => abT nS T (6 * q + j) b) (fun n x => by
    simp only [L_CX_askedBy_4, Nat.zero_add]
    rw [if_pos (inb_nI hq (by decide)), nI_clamp (by omega), ekc, if_pos (nI_le (by omega) (by omega))]) (fun n x i hi => by
    obtain ⟨w, ew, hw, e1, e2⟩ := parC hS (hkj i hi)
    have hu : L_CX_askedBy_4 S (nI q) (n + 1) x (nI i) = (m_CAskings_isAboutAxis S (gA S 5 (6 * q + i))).bind fun q4 => if q4 = 0 then (m_CSettings_baseOf S (nI w)).bind fun q5 => if q5 = -1 then L_CX_askedBy_4 S (nI q) n (x ||| (0 : Int32)) (nI (i + 1)) else L_CX_askedBy_4 S (nI q) n (x ||| ((1 : Int32) <<< (q5 &&& 31))) (nI (i + 1)) else L_CX_askedBy_4 S (nI q) n (x ||| ((1 : Int32) <<< (((16 : Int32) + nI w) &&& 31))) (nI (i + 1)) := by
      rw [L_CX_askedBy_4, if_pos (inb_nI hq (by decide)), nI_clamp (show q < 2 ^ 31 by omega), ekc, if_neg (nI_ge hi (by omega)), m_CConditions_askingAt, ixc6, if_pos (inb_nI (show 6 * q + i < 240 by omega) (by decide)), Option.bind_some, nI_clamp (show 6 * q + i < 2 ^ 31 by omega), e1, Option.bind_some, nI_1]
    simp only [Nat.zero_add]
    rw [hu]
    rcases e2 with ⟨c, e3⟩ | ⟨c, hw8, e3⟩
    · rw [e3, Option.bind_some, if_pos rfl, baseC (T := T) hSc hS (fun i hi => (r1 i hi).2.2.1), Option.bind_some]
      rcases bas_is (n := nS) (ma := gA T 0) hS (nI w) with e | ⟨b, hb, hm, e⟩
      · refine ⟨0, by rw [if_pos e], rep_iff rep_0 (fun b hb => ⟨False.elim, ?_⟩)⟩
        rintro (⟨_, h2, h3⟩ | ⟨h2, _⟩)
        · rw [ew, e] at h3; exact nI_ne_m1 (by omega) h3.symm
        · exact h2 c
      · refine ⟨(1 : Int32) <<< (nI b &&& 31), by rw [e, if_neg (nI_ne_m1 (by omega))], rep_iff (rep_1 (show b < 32 by omega)) (fun d hd => ⟨?_, ?_⟩)⟩
        · rintro rfl
          exact Or.inl ⟨c, by omega, by rw [ew, e]⟩
        · rintro (⟨_, h2, h3⟩ | ⟨h2, _⟩)
          · rw [ew, e] at h3; exact (nI_inj (by omega) (by omega) h3).symm
          · exact absurd c h2
    · rw [e3, Option.bind_some, if_neg one0]
      refine ⟨(1 : Int32) <<< (((16 : Int32) + nI w) &&& 31), rfl, ?_⟩
      rw [show (16 : Int32) + nI w = nI (16 + w) from nI_add 16 w]
      refine rep_iff (rep_1 (show 16 + w < 32 by omega)) (fun d hd => ⟨?_, ?_⟩)
      · rintro rfl
        exact Or.inr ⟨by rw [c]; decide, by omega, by omega, by rw [ew]; congr 1; omega⟩
      · rintro (⟨h1, _⟩ | ⟨_, h2, h3, h4⟩)
        · rw [c] at h1; exact absurd h1 one0
        · rw [ew] at h4
          have := nI_inj (by omega) (by omega) h4
          omega) k 0 100 0 (fun _ => False) (by omega) (by omega) (by omega) rep_0
  refine ⟨z, ?_, rep_iff g2 (fun b _ => ?_)⟩
  · unfold m_CX_askedBy
    rw [show L_CX_askedBy_4 S (nI q) 100 0 0 = _ from g1, Option.bind_some]
  · unfold amT
    rw [ek]
    exact ⟨fun h => h.elim False.elim (fun ⟨j, _, h2, h3⟩ => ⟨j, h2, h3⟩), fun ⟨j, h2, h3⟩ => Or.inr ⟨j, Nat.zero_le _, h2, h3⟩⟩
