def pA (S : St9) (k : Nat) (f : Nat → Int32) : St9 := (S.1, S.2.1, va_up S.2.2.1 k f, S.2.2.2)
def pB (S : St9) (k : Nat) (f : Nat → Int64) : St9 := (S.1, S.2.1, S.2.2.1, va_up S.2.2.2 k f)
theorem pA_pA (S : St9) (k : Nat) (f g : Nat → Int32) : pA (pA S k f) k g = pA S k g := by unfold pA; simp only [bx_uu]
theorem pB_pB (S : St9) (k : Nat) (f g : Nat → Int64) : pB (pB S k f) k g = pB S k g := by unfold pB; simp only [bx_uu]
theorem pA_self (S : St9) (k : Nat) : pA S k (gA S k) = S := by
  unfold pA gA
  have : va_up S.2.2.1 k (S.2.2.1 k) = S.2.2.1 := by
    funext j; unfold va_up; by_cases h : j = k
    · rw [if_pos h, h]
    · rw [if_neg h]
  rw [this]
theorem pB_self (S : St9) (k : Nat) : pB S k (gB S k) = S := by
  unfold pB gB
  have : va_up S.2.2.2 k (S.2.2.2 k) = S.2.2.2 := by
    funext j; unfold va_up; by_cases h : j = k
    · rw [if_pos h, h]
    · rw [if_neg h]
  rw [this]
theorem va_up_s {α : Type} (f : Nat → α) (k : Nat) (v : α) : va_up f k v k = v := by unfold va_up; rw [if_pos rfl]
theorem gA_ps (S : St9) (k : Nat) (f : Nat → Int32) : gA (pA S k f) k = f := va_up_s _ _ _
theorem gB_ps (S : St9) (k : Nat) (f : Nat → Int64) : gB (pB S k f) k = f := va_up_s _ _ _
theorem tA_pA (S : St9) (k : Nat) (g : Nat → Int32) (i v : Int32) : tA (pA S k g) k i v = pA S k (upd g i.toNatClampNeg v) := by
  show pA (pA S k g) k (upd (gA (pA S k g) k) i.toNatClampNeg v) = _
  rw [gA_ps, pA_pA]
theorem tB_pB (S : St9) (k : Nat) (g : Nat → Int64) (i : Int32) (v : Int64) : tB (pB S k g) k i v = pB S k (vp_updL g i.toNatClampNeg v) := by
  show pB (pB S k g) k (vp_updL (gB (pB S k g) k) i.toNatClampNeg v) = _
  rw [gB_ps, pB_pB]
theorem giveAll_l (S : StC) (x1 x2 : Int32) (nK : Nat) (hK : gI S 2 = nI nK) (hk : nK ≤ 60) : ∀ (m i n : Nat) (g : Nat → Int64), m = nK - i → i ≤ nK → m < n → L_CConfigurations_giveAll_2 x1 x2 n (pB S 0 g) (nI i) = some (pB S 0 (fun c => if i ≤ c ∧ c < nK then wv (g c) x1 x2 else g c)) := by
  intro m
  induction m with
  | zero =>
    intro i n g hm hi hn
    obtain ⟨n, rfl⟩ : ∃ k, n = k + 1 := ⟨n - 1, by omega⟩
    have e : i = nK := by omega
    subst e
    have h2 : gI (pB S 0 g) 2 ≤ nI i := by show gI S 2 ≤ nI i; rw [hK]; exact nI_le (Nat.le_refl _) (by omega)
    rw [L_CConfigurations_giveAll_2, if_pos h2]
    congr 2
    funext c
    rw [if_neg (by omega)]
  | succ m ih =>
    intro i n g hm hi hn
    obtain ⟨n, rfl⟩ : ∃ k, n = k + 1 := ⟨n - 1, by omega⟩
    have h2 : ¬ gI (pB S 0 g) 2 ≤ nI i := by show ¬ gI S 2 ≤ nI i; rw [hK]; exact nI_ge (by omega) (by omega)
    rw [L_CConfigurations_giveAll_2, if_neg h2, if_pos (inb_nI (show i < 60 by omega) (by decide))]
    show L_CConfigurations_giveAll_2 x1 x2 n (tB (pB S 0 g) 0 (nI i) (wv (gB (pB S 0 g) 0 (nI i).toNatClampNeg) x1 x2)) (nI i + 1) = _
    rw [gB_ps, tB_pB, nI_clamp (by omega), nI_1, ih (i + 1) n _ (by omega) (by omega) (by omega)]
    congr 2
    funext c
    rw [updL_e]
    by_cases c1 : c = i
    · subst c1
      rw [if_neg (by omega), if_pos rfl, if_pos (by omega)]
    · rw [if_neg c1]
      by_cases c2 : i + 1 ≤ c ∧ c < nK
      · rw [if_pos c2, if_pos (by omega)]
      · rw [if_neg c2, if_neg (by omega)]
theorem setM_l (T : StM) (x2 : Int32) (nS : Nat) (hS : gI T 0 = nI nS) (h16 : nS < 16) : ∀ (m i n : Nat) (g : Nat → Int32), m = 61 - i → i ≤ 61 → m < n → L_MX_setting_62 x2 n (pA T 5 g) (nI i) = some (pA T 5 (fun x => if x % 16 = nS ∧ i ≤ x / 16 ∧ x / 16 ≤ 60 then x2 else g x)) := by
  intro m
  induction m with
  | zero =>
    intro i n g hm hi hn
    obtain ⟨n, rfl⟩ : ∃ k, n = k + 1 := ⟨n - 1, by omega⟩
    have h2 : (60 : Int32) < nI i := nI_lt (a := 60) (by omega) (by omega)
    rw [L_MX_setting_62, if_pos h2]
    congr 2
    funext c
    rw [if_neg (by omega)]
  | succ m ih =>
    intro i n g hm hi hn
    obtain ⟨n, rfl⟩ : ∃ k, n = k + 1 := ⟨n - 1, by omega⟩
    have h2 : ¬ (60 : Int32) < nI i := nI_nlt (b := i) (a := 60) (by omega) (by decide)
    have h3 : gI (pA T 5 g) 0 = nI nS := hS
    rw [L_MX_setting_62, if_neg h2, h3, ixm16, if_pos (inb_nI (show 16 * i + nS < 976 by omega) (by decide)), tA_pA, nI_clamp (by omega), nI_1, ih (i + 1) n _ (by omega) (by omega) (by omega)]
    congr 2
    funext c
    rw [upd_e]
    by_cases c1 : c = 16 * i + nS
    · rw [if_neg (by omega), if_pos c1, if_pos (by omega)]
    · rw [if_neg c1]
      by_cases c2 : c % 16 = nS ∧ i + 1 ≤ c / 16 ∧ c / 16 ≤ 60
      · rw [if_pos c2, if_pos (by omega)]
      · rw [if_neg c2, if_neg (by omega)]
theorem rowV_lt {n nP : Nat} {ma mp mv : Nat → Int32} {c : Nat} (h : RRow n nP ma mp mv c) (s : Nat) : rowV n ma mv c s < 8 := by
  unfold rowV
  by_cases hc : s < n ∧ ma s = -1
  · rw [if_pos hc]
    obtain ⟨v, hv, e⟩ := h.2 s hc.1 hc.2
    rw [e, nI_clamp (by omega)]
    exact hv
  · rw [if_neg hc]; decide
theorem op1 : Op1 Rel := by
  intro S T a1 h
  have h0 := h
  obtain ⟨nS, nP, nK, nQ, nT, nE, nN, nR, ⟨hS, hSc, hSm⟩, hP, hK, hQ, hT, hE, hN, hR, r1, r2, r3, r4, r5, r6, r7, r8, r9, r10, r11, r12, r13, r14⟩ := h
  rcases rng a1 (n := 16) (by omega) with ⟨j, hj, rfl⟩ | hno
  · have d1 : ¬ nI j < 0 := nI_pos (by omega)
    have d2 : nI j < (16 : Int32) := nI_lt (b := 16) hj (by decide)
    by_cases hf : nS = 16
    · refine ⟨-1, S, T, ?_, ?_, h0⟩
      · subst hf
        simp only [m_CX_alias, m_CSettings_add, if_neg d1, if_pos d2, hSc]
        rfl
      · subst hf
        simp only [m_MX_alias, hSm]
        rfl
    · have hlt : nS < 16 := by omega
      have b1 : inb (nI nS) 16 = true := inb_nI (by omega) (by decide)
      have h1 : nI nS < (16 : Int32) := nI_lt (b := 16) hlt (by decide)
      have h2 : ¬ nI nS = (16 : Int32) := fun e => hf (nI_inj (b := 16) (by omega) (by decide) e)
      have en := nI_clamp (show nS < 2 ^ 31 by omega)
      refine ⟨nI nS, sI (tA (tA (tA S 0 (nI nS) 0) 1 (nI nS) 0) 2 (nI nS) (nI j)) 0 (nI nS + 1), sI (tA (tA (tA T 0 (nI nS) (nI j)) 1 (nI nS) 0) 2 (nI nS) 0) 0 (nI nS + 1), ?_, ?_, nS + 1, nP, nK, nQ, nT, nE, nN, nR, ⟨hlt, nI_1 nS, nI_1 nS⟩, hP, hK, hQ, hT, hE, hN, hR, ?_, r2, ?_, ?_, r5, r6, r7, r8, r9, r10, r11, ?_, r13, r14⟩
      · simp only [m_CX_alias, m_CSettings_add, if_neg d1, if_pos d2, hSc, if_pos h1, b1, if_true, Option.bind_some]
      · simp only [m_MX_alias, in_e, hSm, if_neg h2, show (16 : Int32) = nI 16 from rfl, thr_yes hj (show (16 : Nat) < 2 ^ 31 by omega), Option.bind_some, if_neg one0, b1, if_true, inc_dec]
        exact if_neg h2
      · show RSet (nS + 1) (upd (gA S 0) (nI nS).toNatClampNeg 0) (upd (gA S 1) (nI nS).toNatClampNeg 0) (upd (gA S 2) (nI nS).toNatClampNeg (nI j)) (upd (gA T 0) (nI nS).toNatClampNeg (nI j)) (upd (gA T 1) (nI nS).toNatClampNeg 0) (upd (gA T 2) (nI nS).toNatClampNeg 0)
        rw [en]
        intro i hi
        simp only [upd_e]
        by_cases e : i = nS
        · simp only [if_pos e, true_and, and_true]; exact Or.inr ⟨j, hj, rfl⟩
        · simp only [if_neg e]; exact r1 i (by omega)
      · show RConf (nS + 1) nP nK (gB S 0) (upd (gA T 0) (nI nS).toNatClampNeg (nI j)) (gA T 4) (gA T 5)
        rw [en]
        intro c hc
        obtain ⟨⟨q1, q2⟩, q3⟩ := r3 c hc
        have hne : ∀ s, s < nS + 1 → upd (gA T 0) nS (nI j) s = -1 → s < nS ∧ gA T 0 s = -1 := by
          intro s hs hm
          rw [upd_e] at hm
          by_cases e : s = nS
          · rw [if_pos e] at hm; exact absurd hm (nI_ne_m1 (by omega))
          · rw [if_neg e] at hm; exact ⟨by omega, hm⟩
        refine ⟨⟨q1, fun s hs hm => q2 s (hne s hs hm).1 (hne s hs hm).2⟩, enc_f q3 (fun s _ => ?_)⟩
        unfold rowV
        by_cases c1 : s < nS ∧ gA T 0 s = -1
        · rw [if_pos c1, if_pos ⟨by omega, by rw [upd_e, if_neg (by omega)]; exact c1.2⟩]
        · rw [if_neg c1, if_neg (fun c2 => c1 (hne s c2.1 c2.2))]
      · intro q hq
        obtain ⟨k, g1, g2, g3, g4, g5⟩ := r4 q hq
        refine ⟨k, g1, g2, g3, g4, fun i hi => ?_⟩
        obtain ⟨w, v, u1, u2, u3, u4⟩ := g5 i hi
        exact ⟨w, v, u1, u2, u3, u4.imp (fun ⟨y1, y2, y3⟩ => ⟨y1, by omega, y3⟩) id⟩
      · intro e he
        obtain ⟨g1, k, g2, g3, g4, g5, g6⟩ := r12 e he
        refine ⟨g1, k, g2, g3, g4, g5, fun i hi => ?_⟩
        obtain ⟨u1, u2, ⟨s, u3, u4⟩, u5⟩ := g6 i hi
        exact ⟨u1, u2, ⟨s, by omega, u4⟩, u5⟩
  · refine ⟨-1, S, T, ?_, ?_, h0⟩
    · simp only [m_CX_alias]
      by_cases d1 : a1 < 0
      · rw [if_pos d1]
      · rw [if_neg d1, if_neg (show ¬ a1 < (16 : Int32) from Int32.not_lt.mpr (hno.resolve_left d1))]
    · simp only [m_MX_alias, in_e, show (16 : Int32) = nI 16 from rfl, thr_no hno, Option.bind_some, if_true]
      by_cases hf : gI T 0 = nI 16
      · rw [if_pos hf]
      · rw [if_neg hf]
