theorem bitG (F : Nat → Int32 → Int32 → Option Int32) (base k : Nat) (Q : Nat → Nat → Prop) (hz : ∀ (n : Nat) (x : Int32), F (n + 1) x (nI (base + k)) = some x) (hs : ∀ (n : Nat) (x : Int32) (i : Nat) (P : Nat → Prop), i < k → Rep x P → ∃ z, F (n + 1) x (nI (base + i)) = F n z (nI (base + (i + 1))) ∧ Rep z (fun b => P b ∨ Q i b)) : ∀ (m i n : Nat) (x : Int32) (P : Nat → Prop), m = k - i → i ≤ k → m < n → Rep x P → ∃ z, F n x (nI (base + i)) = some z ∧ Rep z (fun b => P b ∨ ∃ j, i ≤ j ∧ j < k ∧ Q j b) := by
  intro m
  induction m with
  | zero =>
    intro i n x P hm hi hn hP
    obtain ⟨n, rfl⟩ : ∃ k, n = k + 1 := ⟨n - 1, by omega⟩
    refine ⟨x, by rw [show i = k by omega, hz], rep_iff hP (fun b _ => ⟨Or.inl, fun h => h.elim id (fun ⟨j, h1, h2, _⟩ => absurd h2 (by omega))⟩)⟩
  | succ m ih =>
    intro i n x P hm hi hn hP
    obtain ⟨n, rfl⟩ : ∃ k, n = k + 1 := ⟨n - 1, by omega⟩
    obtain ⟨y, e, hy⟩ := hs n x i P (by omega) hP
    obtain ⟨z, g1, g2⟩ := ih (i + 1) n y _ (by omega) (by omega) (by omega) hy
    refine ⟨z, e.trans g1, rep_iff g2 (fun b _ => ?_)⟩
    constructor
    · rintro ((h | h) | ⟨j, h1, h2, h3⟩)
      · exact Or.inl h
      · exact Or.inr ⟨i, Nat.le_refl _, by omega, h⟩
      · exact Or.inr ⟨j, by omega, h2, h3⟩
    · rintro (h | ⟨j, h1, h2, h3⟩)
      · exact Or.inl (Or.inl h)
      · by_cases c : j = i
        · rw [c] at h3; exact Or.inl (Or.inr h3)
        · exact Or.inr ⟨j, by omega, h2, h3⟩
/-- the BASES that a CONDITION asks about -/
def rbT (nS : Nat) (T : StM) (q b : Nat) : Prop := amT nS T q b ∧ b < 16
theorem readByM {S : StC} {T : StM} {nS nP nK nQ nT nE nN q : Nat} (h : RelB S T nS nP nK nQ nT nE nN) (hq : q < 40) : ∃ z, m_MX_readBy T (nI q) = some z ∧ Rep z (rbT nS T q) := by
  obtain ⟨⟨hS, hSc, hSm⟩, ⟨hP, hPc, hPm⟩, hK, hQ, hT, hE, hN, r1, r2, r3, r4, -⟩ := h
  obtain ⟨k, hk, ekc, ekm, hk0, hkj⟩ := r4 q hq
  have ek : (gA T 6 q).toNatClampNeg = k := by rw [ekm, nI_clamp (by omega)]
  obtain ⟨z, g1, g2⟩ := bitL (fun n x y => L_MX_readBy_7 T (nI q) n x y) (6 * q) k (fun j b => abT nS T (6 * q + j) b ∧ b < 16) (fun n x => by
    show L_MX_readBy_7 T (nI q) (n + 1) x _ = _
    rw [L_MX_readBy_7, if_pos (inb_nI hq (by decide)), nI_clamp (by omega), ekm, ixm6, if_pos (nI_le (by omega) (by omega))]) (fun n x i hi => by
    obtain ⟨w, v, hv, ew, ev, hc⟩ := hkj i hi
    have hu : L_MX_readBy_7 T (nI q) (n + 1) x (nI (6 * q + i)) = if gA T 9 (6 * q + i) = 0 then if bas nS (gA T 0) (nI w) = -1 then L_MX_readBy_7 T (nI q) n (x ||| (0 : Int32)) (nI (6 * q + (i + 1))) else L_MX_readBy_7 T (nI q) n (x ||| ((1 : Int32) <<< (bas nS (gA T 0) (nI w) &&& 31))) (nI (6 * q + (i + 1))) else L_MX_readBy_7 T (nI q) n (x ||| (0 : Int32)) (nI (6 * q + (i + 1))) := by
      rw [L_MX_readBy_7, if_pos (inb_nI hq (by decide)), nI_clamp (show q < 2 ^ 31 by omega), ekm, ixm6, if_neg (nI_ge (by omega) (by omega)), if_pos (inb_nI (show 6 * q + i < 240 by omega) (by decide)), nI_clamp (show 6 * q + i < 2 ^ 31 by omega), ew, baseM hSm hS, Option.bind_some, nI_1, show 6 * q + i + 1 = 6 * q + (i + 1) by omega, if_pos (show ((-1) : Int32) = -1 from rfl)]
    show ∃ y, L_MX_readBy_7 T (nI q) (n + 1) x (nI (6 * q + i)) = L_MX_readBy_7 T (nI q) n (x ||| y) (nI (6 * q + (i + 1))) ∧ _
    rw [hu]
    rcases hc with ⟨c, hw, -⟩ | ⟨c, hw, -⟩
    · rw [if_pos c]
      rcases bas_is (n := nS) (ma := gA T 0) hS (nI w) with e | ⟨b, hb, hm, e⟩
      · refine ⟨0, by rw [if_pos e], rep_iff rep_0 (fun b hb => ⟨False.elim, ?_⟩)⟩
        rintro ⟨⟨_, h2, h3⟩ | ⟨h2, _⟩, _⟩
        · rw [ew, e] at h3; exact nI_ne_m1 (by omega) h3.symm
        · exact h2 c
      · refine ⟨(1 : Int32) <<< (nI b &&& 31), by rw [e, if_neg (nI_ne_m1 (by omega))], rep_iff (rep_1 (show b < 32 by omega)) (fun d hd => ⟨?_, ?_⟩)⟩
        · rintro rfl
          exact ⟨Or.inl ⟨c, by omega, by rw [ew, e]⟩, by omega⟩
        · rintro ⟨⟨_, h2, h3⟩ | ⟨h2, _⟩, _⟩
          · rw [ew, e] at h3; exact (nI_inj (by omega) (by omega) h3).symm
          · exact absurd c h2
    · have d : ¬ gA T 9 (6 * q + i) = 0 := by rw [c]; decide
      rw [if_neg d]
      refine ⟨0, rfl, rep_iff rep_0 (fun b hb => ⟨False.elim, ?_⟩)⟩
      rintro ⟨⟨h1, _⟩ | ⟨_, h2, _⟩, h3⟩
      · exact d h1
      · omega) k 0 100 0 (fun _ => False) (by omega) (by omega) (by omega) rep_0
  refine ⟨z, ?_, rep_iff g2 (fun b _ => ?_)⟩
  · unfold m_MX_readBy
    rw [m6, show nI (6 * q) = nI (6 * q + 0) from rfl, show L_MX_readBy_7 T (nI q) 100 0 (nI (6 * q + 0)) = _ from g1, Option.bind_some]
  · unfold rbT amT
    rw [ek]
    exact ⟨fun h => h.elim False.elim (fun ⟨j, _, h2, h3, h4⟩ => ⟨⟨j, h2, h3⟩, h4⟩), fun ⟨⟨j, h2, h3⟩, h4⟩ => Or.inr ⟨j, Nat.zero_le _, h2, h3, h4⟩⟩
/-- what a TARGET READS by itself: by its WANT, by its SELECTS -/
def rwT (nS : Nat) (T : StM) (t b : Nat) : Prop := ∃ q : Nat, gA T 17 t = nI q ∧ q < 40 ∧ rbT nS T q b
def rsT (nS : Nat) (T : StM) (t s b : Nat) : Prop := gA T 10 s = nI t ∧ ∃ d, d < (gA T 11 s).toNatClampNeg ∧ ∃ q : Nat, gA T 12 (8 * s + d) = nI q ∧ q < 40 ∧ rbT nS T q b
def roT (nS nE : Nat) (T : StM) (t b : Nat) : Prop := rwT nS T t b ∨ ∃ s, s < nE ∧ rsT nS T t s b
theorem rb_w {nS : Nat} {T : StM} {t q : Nat} (e : gA T 17 t = nI q) (hq : q < 40) (b : Nat) : rwT nS T t b ↔ rbT nS T q b := by
  constructor
  · rintro ⟨q', e', h1, h2⟩
    rw [nI_inj (by omega) (by omega) (e.symm.trans e')]
    exact h2
  · exact fun h => ⟨q, e, hq, h⟩
theorem readAloneM {S : StC} {T : StM} {nS nP nK nQ nT nE nN t : Nat} (h : RelB S T nS nP nK nQ nT nE nN) (ht : t < nT) : ∃ z, m_MX_readAlone T (nI t) = some z ∧ Rep z (roT nS nE T t) := by
  have h0 := h
  obtain ⟨⟨hS, hSc, hSm⟩, ⟨hP, hPc, hPm⟩, hK, ⟨hQ, hQc, hQm⟩, ⟨hT, hTc, hTm⟩, ⟨hE, hEc, hEm⟩, hN, r1, r2, r3, r4, r5, r6, r7, r8, -⟩ := h
  have outer : ∀ (x : Int32) (P : Nat → Prop), Rep x P → ∃ z, L_MX_readAlone_27 T (nI t) 100 x 0 = some z ∧ Rep z (fun b => P b ∨ ∃ j, 0 ≤ j ∧ j < nE ∧ rsT nS T t j b) := fun x P hP' => bitG (fun n x y => L_MX_readAlone_27 T (nI t) n x y) 0 nE (fun s b => rsT nS T t s b) (fun n x => by
    simp only [Nat.zero_add]
    rw [L_MX_readAlone_27, hEm, if_pos (nI_le (by omega) (by omega))]) (fun n x s P hs hP => by
    obtain ⟨k, hk, ekc, ekm, hk0, hkb⟩ := r7 s (by omega)
    have ek : (gA T 11 s).toNatClampNeg = k := by rw [ekm, nI_clamp (by omega)]
    have hu : L_MX_readAlone_27 T (nI t) (n + 1) x (nI s) = (L_MX_readAlone_41 T (nI t) (nI s) 100 x (nI (8 * s + 0))).bind fun y => L_MX_readAlone_27 T (nI t) n y (nI (s + 1)) := by
      rw [L_MX_readAlone_27, hEm, if_neg (nI_ge hs (by omega)), m8, nI_1]
      rfl
    simp only [Nat.zero_add]
    rw [hu]
    by_cases c : gA T 10 s = nI t
    · obtain ⟨z, g1, g2⟩ := bitL (fun n x y => L_MX_readAlone_41 T (nI t) (nI s) n x y) (8 * s) k (fun d b => ∃ q : Nat, gA T 12 (8 * s + d) = nI q ∧ q < 40 ∧ rbT nS T q b) (fun n x => by
        show L_MX_readAlone_41 T (nI t) (nI s) (n + 1) x _ = _
        rw [L_MX_readAlone_41, if_pos (inb_nI (show s < 24 by omega) (by decide)), nI_clamp (by omega), ekm, ixm8, if_pos (nI_le (by omega) (by omega))]) (fun n x d hd => by
        obtain ⟨-, -, -, ⟨q, hq, eq⟩, -⟩ := hkb d hd
        obtain ⟨y, f1, f2⟩ := readByM h0 (show q < 40 by omega)
        refine ⟨y, ?_, rep_iff f2 (fun b _ => ⟨fun h => ⟨q, eq, by omega, h⟩, ?_⟩)⟩
        · show L_MX_readAlone_41 T (nI t) (nI s) (n + 1) x _ = _
          rw [L_MX_readAlone_41, if_pos (inb_nI (show s < 24 by omega) (by decide)), nI_clamp (show s < 2 ^ 31 by omega), ekm, ixm8, if_neg (nI_ge (by omega) (by omega)), if_pos c, if_pos (inb_nI (show 8 * s + d < 192 by omega) (by decide)), nI_clamp (show 8 * s + d < 2 ^ 31 by omega), eq, f1, Option.bind_some, nI_1]
          rfl
        · rintro ⟨q', e', h1, h2⟩
          rw [nI_inj (by omega) (by omega) (eq.symm.trans e')]
          exact h2) k 0 100 x P (by omega) (by omega) (by omega) hP
      refine ⟨z, by rw [show L_MX_readAlone_41 T (nI t) (nI s) 100 x (nI (8 * s + 0)) = _ from g1, Option.bind_some], rep_iff g2 (fun b _ => ?_)⟩
      unfold rsT
      rw [ek]
      exact ⟨fun h => h.imp id (fun ⟨d, _, h2, h3⟩ => ⟨c, d, h2, h3⟩), fun h => h.imp id (fun ⟨_, d, h2, h3⟩ => ⟨d, Nat.zero_le _, h2, h3⟩)⟩
    · refine ⟨x, ?_, rep_iff hP (fun b _ => ⟨Or.inl, fun h => h.elim id (fun g => absurd g.1 c)⟩)⟩
      have : L_MX_readAlone_41 T (nI t) (nI s) 100 x (nI (8 * s + 0)) = some x := by
        rw [L_MX_readAlone_41, if_pos (inb_nI (show s < 24 by omega) (by decide)), nI_clamp (show s < 2 ^ 31 by omega), if_neg c]
        by_cases c2 : (8 : Int32) * nI s + gA T 11 s ≤ nI (8 * s + 0)
        · rw [if_pos c2]
        · rw [if_neg c2]
      rw [this, Option.bind_some]) nE 0 100 x P (by omega) (by omega) (by omega) hP'
  unfold m_MX_readAlone
  rw [if_pos (inb_nI (show t < 16 by omega) (by decide)), nI_clamp (by omega)]
  rcases (r6 t ht).2 with e | ⟨q, hq, e⟩
  · obtain ⟨z, g1, g2⟩ := outer 0 _ rep_0
    refine ⟨z, by rw [if_pos e, g1, Option.bind_some], rep_iff g2 (fun b _ => ?_)⟩
    constructor
    · rintro (h | ⟨s, _, h2, h3⟩)
      · exact h.elim
      · exact Or.inr ⟨s, h2, h3⟩
    · rintro (⟨q, h1, h2, _⟩ | ⟨s, h2, h3⟩)
      · rw [e] at h1; exact absurd h1.symm (nI_ne_m1 (by omega))
      · exact Or.inr ⟨s, Nat.zero_le _, h2, h3⟩
  · obtain ⟨y, f1, f2⟩ := readByM h0 (show q < 40 by omega)
    obtain ⟨z, g1, g2⟩ := outer y _ f2
    have d : ¬ gA T 17 t = -1 := by rw [e]; exact nI_ne_m1 (by omega)
    refine ⟨z, by rw [if_neg d, e, f1, Option.bind_some, g1, Option.bind_some], rep_iff g2 (fun b _ => ?_)⟩
    constructor
    · rintro (h | ⟨s, _, h2, h3⟩)
      · exact Or.inl ((rb_w e (by omega) b).mpr h)
      · exact Or.inr ⟨s, h2, h3⟩
    · rintro (h | ⟨s, h2, h3⟩)
      · exact Or.inl ((rb_w e (by omega) b).mp h)
      · exact Or.inr ⟨s, Nat.zero_le _, h2, h3⟩
