/-! the reference's last row, and a code beside it -/
def Scr (T : StM) (nS nP : Nat) (x : Int64) : Prop := RRow nS nP (gA T 0) (gA T 4) (gA T 5) 60 ∧ Enc x (gA T 4 60).toNatClampNeg (rowV nS (gA T 0) (gA T 5) 60)
def FrS (T T' : StM) : Prop := (∀ k, ¬ k = 4 → ¬ k = 5 → gA T' k = gA T k) ∧ (∀ k, gI T' k = gI T k) ∧ (∀ c, c < 60 → gA T' 4 c = gA T 4 c) ∧ ∀ x, x < 960 → gA T' 5 x = gA T 5 x
theorem frS_rf (T : StM) : FrS T T := ⟨fun _ _ _ => rfl, fun _ => rfl, fun _ _ => rfl, fun _ _ => rfl⟩
theorem frS_tr {T U V : StM} (h : FrS T U) (g : FrS U V) : FrS T V := ⟨fun k a b => (g.1 k a b).trans (h.1 k a b), fun k => (g.2.1 k).trans (h.2.1 k), fun c hc => (g.2.2.1 c hc).trans (h.2.2.1 c hc), fun x hx => (g.2.2.2 x hx).trans (h.2.2.2 x hx)⟩
theorem frS_M {T T' : StM} {nK : Nat} (hK : nK ≤ 60) (h : FrS T T') : FrM T T' nK := ⟨h.1, fun k _ => h.2.1 k, fun c hc => h.2.2.1 c (by omega), fun x hx => h.2.2.2 x (by omega)⟩
theorem relB_scr {S : StC} {T T' : StM} {nS nP nK nQ nT nE nN : Nat} (h : RelB S T nS nP nK nQ nT nE nN) (g : FrS T T') : RelB S T' nS nP nK nQ nT nE nN := by
  obtain ⟨⟨hS, hSc, hSm⟩, ⟨hP, hPc, hPm⟩, ⟨hK, hKc, hKm⟩, ⟨hQ, hQc, hQm⟩, ⟨hT, hTc, hTm⟩, ⟨hE, hEc, hEm⟩, ⟨hN, hNc, hNm⟩, r1, r2, r3, r4, r5, r6, r7, r8, r9, r10, r11, r12, r14⟩ := h
  obtain ⟨g1, g2, g3, g4⟩ := g
  have e : ∀ k, ¬ k = 4 → ¬ k = 5 → gA T' k = gA T k := g1
  refine ⟨⟨hS, hSc, (g2 0).trans hSm⟩, ⟨hP, hPc, (g2 1).trans hPm⟩, ⟨hK, hKc, (g2 2).trans hKm⟩, ⟨hQ, hQc, (g2 3).trans hQm⟩, ⟨hT, hTc, (g2 5).trans hTm⟩, ⟨hE, hEc, (g2 4).trans hEm⟩, ⟨hN, hNc, (g2 6).trans hNm⟩, ?_, ?_, ?_, ?_, ?_, ?_, ?_, ?_, ?_, ?_, ?_, ?_, ?_⟩
  · rw [e 0 (by decide) (by decide), e 1 (by decide) (by decide), e 2 (by decide) (by decide)]; exact r1
  · rw [e 3 (by decide) (by decide)]; exact r2
  · intro c hc
    obtain ⟨q1, q2⟩ := r3 c hc
    rw [e 0 (by decide) (by decide), g3 c (by omega)]
    refine ⟨⟨by rw [g3 c (by omega)]; exact q1.1, fun s hs hm => by rw [g4 _ (by omega)]; exact q1.2 s hs hm⟩, enc_f q2 (fun s hs => ?_)⟩
    unfold rowV
    rw [g4 _ (by omega)]
  · rw [e 6 (by decide) (by decide), e 7 (by decide) (by decide), e 8 (by decide) (by decide), e 9 (by decide) (by decide)]; exact r4
  · rw [e 18 (by decide) (by decide), e 11 (by decide) (by decide), e 12 (by decide) (by decide)]; exact r5
  · rw [e 17 (by decide) (by decide)]; exact r6
  · rw [e 10 (by decide) (by decide), e 11 (by decide) (by decide), e 12 (by decide) (by decide), e 15 (by decide) (by decide), e 13 (by decide) (by decide)]; exact r7
  · rw [e 10 (by decide) (by decide)]; exact r8
  · rw [e 16 (by decide) (by decide), e 14 (by decide) (by decide)]; exact r9
  · rw [e 11 (by decide) (by decide), e 15 (by decide) (by decide), e 13 (by decide) (by decide)]; exact r10
  · rw [e 11 (by decide) (by decide), e 15 (by decide) (by decide)]; exact r11
  · rw [e 19 (by decide) (by decide), e 20 (by decide) (by decide), e 21 (by decide) (by decide), e 22 (by decide) (by decide), e 23 (by decide) (by decide)]; exact r12
  · rw [g2 7, g2 8, g2 9, g2 10]; exact r14
theorem giveM (T : StM) {s : Nat} (hs : s < 16) (v : Int32) : m_MX_give T (nI s) v = some (tA T 5 (nI (960 + s)) v) := by
  unfold m_MX_give
  rw [show (960 : Int32) + nI s = nI (960 + s) from nI_add 960 s, if_pos (inb_nI (show 960 + s < 976 by omega) (by decide))]
theorem give_fr (T : StM) {s : Nat} (hs : s < 16) (v : Int32) : FrS T (tA T 5 (nI (960 + s)) v) := by
  refine ⟨fun k _ k5 => ?_, fun _ => rfl, fun _ _ => rfl, fun x hx => ?_⟩
  · rw [gA_tA, if_neg k5]
  · show upd (gA T 5) (nI (960 + s)).toNatClampNeg v x = _
    rw [nI_clamp (by omega), upd_e, if_neg (by omega)]
theorem give_at (T : StM) {s : Nat} (hs : s < 16) (v : Int32) (r : Nat) : gA (tA T 5 (nI (960 + s)) v) 5 (16 * 60 + r) = if r = s then v else gA T 5 (16 * 60 + r) := by
  show upd (gA T 5) (nI (960 + s)).toNatClampNeg v _ = _
  rw [nI_clamp (by omega), upd_e]
  by_cases e : r = s
  · rw [if_pos (by omega), if_pos e]
  · rw [if_neg (by omega), if_neg e]
theorem give_scr {T : StM} {nS nP : Nat} {x : Int64} {s v : Nat} (hS : nS ≤ 16) (h : Scr T nS nP x) (hs : s < nS) (hv : v < 8) (hm : gA T 0 s = -1 ∨ v = 0) : Scr (tA T 5 (nI (960 + s)) (nI v)) nS nP (wv x (nI s) (nI v)) := by
  obtain ⟨⟨p1, p2⟩, p3⟩ := h
  refine ⟨⟨p1, fun r hr hm => ?_⟩, ?_⟩
  · rw [give_at T (by omega)]
    by_cases e : r = s
    · rw [if_pos e]; exact ⟨v, hv, rfl⟩
    · rw [if_neg e]; exact p2 r hr hm
  · refine enc_f (enc_with p3 (show s < 16 by omega) hv) (fun r hr => ?_)
    unfold rowV
    rw [give_at T (by omega)]
    show (if r = s then v else (if r < nS ∧ gA T 0 r = -1 then (gA T 5 (16 * 60 + r)).toNatClampNeg else 0)) = (if r < nS ∧ gA T 0 r = -1 then (if r = s then nI v else gA T 5 (16 * 60 + r)).toNatClampNeg else 0)
    by_cases e : r = s
    · rw [if_pos e, if_pos e]
      by_cases c : r < nS ∧ gA T 0 r = -1
      · rw [if_pos c, nI_clamp (by omega)]
      · rw [if_neg c]
        rcases hm with hm | hm
        · exact absurd ⟨by omega, by rw [e]; exact hm⟩ c
        · exact hm
    · rw [if_neg e, if_neg e]
theorem copy_fr (T : StM) (a : Nat) : FrS T (cpd T a 60) := by
  refine ⟨fun k k4 k5 => ?_, fun _ => rfl, fun c hc => ?_, fun x hx => ?_⟩
  · show va_up (va_up T.2.2.1 4 _) 5 _ k = T.2.2.1 k
    unfold va_up
    rw [if_neg k5, if_neg k4]
  · show upd (gA T 4) 60 (gA T 4 a) c = _
    rw [upd_e, if_neg (by omega)]
  · show (if 16 * 60 + 0 ≤ x ∧ x < 16 * 60 + 16 then _ else gA T 5 x) = _
    rw [if_neg (by omega)]
theorem copy_scr {S : StC} {T : StM} {nS nP nK nQ nT nE nN c : Nat} (h : RelB S T nS nP nK nQ nT nE nN) (hc : c < nK) : Scr (cpd T c 60) nS nP (gB S 0 c) := by
  obtain ⟨⟨hS, -⟩, -, ⟨hK, -⟩, -, -, -, -, -, -, r3, -⟩ := h
  obtain ⟨⟨q1, q2⟩, q3⟩ := r3 c hc
  have e4 : gA (cpd T c 60) 4 60 = gA T 4 c := by show upd (gA T 4) 60 (gA T 4 c) 60 = _; rw [upd_e, if_pos rfl]
  have e5 : ∀ s, s < 16 → gA (cpd T c 60) 5 (16 * 60 + s) = gA T 5 (16 * c + s) := fun s hs => by
    show (if 16 * 60 + 0 ≤ 16 * 60 + s ∧ 16 * 60 + s < 16 * 60 + 16 then gA T 5 (16 * c + (16 * 60 + s - 16 * 60)) else _) = _
    rw [if_pos (by omega), show 16 * 60 + s - 16 * 60 = s by omega]
  refine ⟨⟨by rw [e4]; exact q1, fun s hs hm => by rw [e5 s (by omega)]; exact q2 s hs hm⟩, ?_⟩
  rw [e4]
  refine enc_f q3 (fun s hs => ?_)
  unfold rowV
  rw [e5 s hs]
  rfl
/-! one bit -/
theorem and1_0 (y : Int32) : (y &&& 1) = 0 ↔ bt y 0 = false := by
  constructor
  · intro h
    have := congrArg (fun z => bt z 0) h
    simp only [b_and, b_0] at this
    rw [show bt 1 0 = true from rfl] at this
    simpa using this
  · intro h
    apply b_ext
    intro i hi
    rw [b_and, b_0]
    by_cases e : i = 0
    · rw [e, h]; rfl
    · have : bt 1 i = false := by
        show (1 : Int32).toBitVec.getLsbD i = false
        have : ∀ i : Fin 32, ¬ i.val = 0 → (1 : Int32).toBitVec.getLsbD i.val = false := by decide
        exact this ⟨i, hi⟩ e
      rw [this, Bool.and_false]
theorem and1_01 (y : Int32) : (y &&& 1) = 0 ∨ (y &&& 1) = 1 := by
  obtain ⟨j, hj, e⟩ := pk_andE y (m := 1) 1 (by decide)
  rcases (show j = 0 ∨ j = 1 by omega) with r | r
  · left; rw [e, r]; rfl
  · right; rw [e, r]; rfl
theorem and1_1 (y : Int32) : (y &&& 1) = 1 ↔ bt y 0 = true := by
  have h0 := and1_0 y
  rcases and1_01 y with e | e
  · have := h0.mp e
    rw [e, this]
    exact ⟨fun h => absurd h.symm one0, fun h => by cases h⟩
  · rw [e]
    refine ⟨fun _ => ?_, fun _ => rfl⟩
    cases hb : bt y 0 with
    | true => rfl
    | false =>
      have := h0.mpr hb
      rw [e] at this
      exact absurd this one0
theorem bitC (S : StC) (x : Int32) {s : Nat} (hs : s < 32) : m_CX_hasBit S x (nI s) = some (b2 (bt x s = true)) := by
  unfold m_CX_hasBit
  by_cases c : bt x s = true
  · rw [if_neg, b2_t c]
    intro h
    have := (and1_0 _).mp h
    rw [b_ushr s hs, Nat.add_zero] at this
    rw [c] at this
    cases this
  · rw [if_pos, b2_f c]
    apply (and1_0 _).mpr
    rw [b_ushr s hs, Nat.add_zero]
    cases hb : bt x s with
    | true => exact absurd hb c
    | false => rfl
theorem bitM0 (x : Int32) {s : Nat} (hs : s < 31) : ((x >>> (nI s &&& 31)) &&& 1) = 0 ↔ bt x s = false := by
  rw [and1_0, b_sshr s (by omega) x (by omega), if_pos (by omega), Nat.add_zero]
theorem bitM1 (x : Int32) {s : Nat} (hs : s < 31) : ((x >>> (nI s &&& 31)) &&& 1) = 1 ↔ bt x s = true := by
  rw [and1_1, b_sshr s (by omega) x (by omega), if_pos (by omega), Nat.add_zero]
theorem set_ok {nS : Nat} {cv cf co ma mm mf : Nat → Int32} (r1 : RSet nS cv cf co ma mm mf) {s : Nat} (hs : s < nS) : ∃ f : Nat, f < 8 ∧ mf s = nI f ∧ cf s = nI f ∧ (ma s = -1 ∨ f = 0) := by
  obtain ⟨-, e2, -, h⟩ := r1 s hs
  rcases h with ⟨h1, v, f, h2, h3, h4, h5⟩ | ⟨j, h1, h2, h3, h4⟩
  · exact ⟨f, by omega, h3, e2.trans h3, Or.inl h1⟩
  · exact ⟨0, by omega, h4, e2.trans h4, Or.inr rfl⟩
/-- trimming, in both -/
theorem trim_l {S : StC} {nS nP nK nQ nT nE nN : Nat} (bits : Int32) : ∀ (m i n : Nat) (T : StM) (x : Int64), RelB S T nS nP nK nQ nT nE nN → Scr T nS nP x → m = nS - i → i ≤ nS → m < n → ∃ (x' : Int64) (T' : StM), L_CX_trimmed_6 S bits n x (nI i) = some x' ∧ L_MX_trimmed_8 bits n T (nI i) = some T' ∧ Scr T' nS nP x' ∧ FrS T T' := by
  intro m
  induction m with
  | zero =>
    intro i n T x h hs hm hi hn
    obtain ⟨n, rfl⟩ : ∃ k, n = k + 1 := ⟨n - 1, by omega⟩
    obtain ⟨⟨hS, hSc, hSm⟩, -⟩ := h
    refine ⟨x, T, ?_, ?_, hs, frS_rf T⟩
    · rw [L_CX_trimmed_6, hSc, if_pos (nI_le (by omega) (by omega))]
    · rw [L_MX_trimmed_8, hSm, if_pos (nI_le (by omega) (by omega))]
  | succ m ih =>
    intro i n T x h hs hm hi hn
    obtain ⟨n, rfl⟩ : ∃ k, n = k + 1 := ⟨n - 1, by omega⟩
    have h0 := h
    obtain ⟨⟨hS, hSc, hSm⟩, -, -, -, -, -, -, r1, -⟩ := h
    obtain ⟨f, hf, ef, ecf, hm1⟩ := set_ok r1 (show i < nS by omega)
    have b1 : inb (nI i) 16 = true := inb_nI (by omega) (by decide)
    have ei := nI_clamp (show i < 2 ^ 31 by omega)
    have hC : L_CX_trimmed_6 S bits (n + 1) x (nI i) = if bt bits i = true then L_CX_trimmed_6 S bits n x (nI (i + 1)) else L_CX_trimmed_6 S bits n (wv x (nI i) (nI f)) (nI (i + 1)) := by
      rw [L_CX_trimmed_6, hSc, if_neg (nI_ge (by omega) (by omega)), bitC S bits (show i < 32 by omega), Option.bind_some, nI_1]
      by_cases c : bt bits i = true
      · rw [if_pos c, if_neg (fun e => b2_0.mp e c)]
      · rw [if_neg c, if_pos (b2_0.mpr c), if_pos b1, ei, ecf]
        rfl
    have hM : L_MX_trimmed_8 bits (n + 1) T (nI i) = if bt bits i = true then L_MX_trimmed_8 bits n T (nI (i + 1)) else L_MX_trimmed_8 bits n (tA T 5 (nI (960 + i)) (nI f)) (nI (i + 1)) := by
      rw [L_MX_trimmed_8, hSm, if_neg (nI_ge (by omega) (by omega)), nI_1]
      by_cases c : bt bits i = true
      · rw [if_pos c, if_neg (fun e => by rw [(bitM0 bits (show i < 31 by omega)).mp e] at c; cases c)]
      · rw [if_neg c, if_pos ((bitM0 bits (show i < 31 by omega)).mpr (by
          cases hb : bt bits i with
          | true => exact absurd hb c
          | false => rfl)), if_pos b1, ei, ef, giveM T (by omega), Option.bind_some]
    rw [hC, hM]
    by_cases c : bt bits i = true
    · rw [if_pos c, if_pos c]
      exact ih (i + 1) n T x h0 hs (by omega) (by omega) (by omega)
    · rw [if_neg c, if_neg c]
      have fr := give_fr T (show i < 16 by omega) (nI f)
      obtain ⟨x', T', g1, g2, g3, g4⟩ := ih (i + 1) n (tA T 5 (nI (960 + i)) (nI f)) (wv x (nI i) (nI f)) (relB_scr h0 fr) (give_scr hS hs (by omega) hf hm1) (by omega) (by omega) (by omega)
      exact ⟨x', T', g1, g2, g3, frS_tr fr g4⟩
