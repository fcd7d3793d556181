/-! CONDITIONS that HOLD -/
def RowX (T : StM) (nS nP c : Nat) (x : Int64) : Prop := RRow nS nP (gA T 0) (gA T 4) (gA T 5) c ∧ Enc x (gA T 4 c).toNatClampNeg (rowV nS (gA T 0) (gA T 5) c)
/-- an ASKING is met in row c -/
def okA (nS : Nat) (T : StM) (c i : Nat) : Prop := (gA T 9 i = 0 ∧ ¬ bas nS (gA T 0) (gA T 7 i) = -1 ∧ gA T 5 (16 * c + (bas nS (gA T 0) (gA T 7 i)).toNatClampNeg) = gA T 8 i) ∨ (¬ gA T 9 i = 0 ∧ gA T 3 (8 * (gA T 4 c).toNatClampNeg + (gA T 7 i).toNatClampNeg) = gA T 8 i)
/-- an ASKING's parts -/
def askP (S : StC) (T : StM) (nS i : Nat) : Prop := ∃ w v : Nat, v < 8 ∧ gA T 7 i = nI w ∧ gA T 8 i = nI v ∧ ((gA T 9 i = 0 ∧ w < nS ∧ gA S 5 i = nI (8 * w + v)) ∨ (gA T 9 i = 1 ∧ w < 8 ∧ gA S 5 i = nI (128 + 8 * w + v)))
theorem isSoM {S : StC} {T : StM} {nS nP c i : Nat} {x : Int64} (hS : nS ≤ 16) (hSm : gI T 0 = nI nS) (hP : nP ≤ 8) (hc : c ≤ 60) (hi : i < 240) (ha : askP S T nS i) (hr : RowX T nS nP c x) : m_MX_isSo T (nI i) (nI c) = some (b2 (okA nS T c i)) := by
  obtain ⟨w, v, hv, ew, ev, h⟩ := ha
  obtain ⟨⟨⟨p, hp, ep⟩, hrow⟩, -⟩ := hr
  unfold m_MX_isSo okA
  rw [if_pos (inb_nI hi (by decide)), nI_clamp (by omega), baseM hSm hS]
  rcases h with ⟨h1, h2, -⟩ | ⟨h1, h2, -⟩
  · rw [if_pos h1, Option.bind_some]
    rcases bas_is (n := nS) (ma := gA T 0) hS (gA T 7 i) with e | ⟨j, hj, hm, e⟩
    · rw [if_pos e, b2_f]
      rintro (⟨_, h, _⟩ | ⟨h, _⟩)
      · exact h e
      · exact h h1
    · have d : ¬ bas nS (gA T 0) (gA T 7 i) = -1 := by rw [e]; exact nI_ne_m1 (by omega)
      rw [if_neg d, e, ixm16, if_pos (inb_nI (show 16 * c + j < 976 by omega) (by decide)), nI_clamp (by omega), nI_clamp (show j < 2 ^ 31 by omega)]
      by_cases g : gA T 5 (16 * c + j) = gA T 8 i
      · rw [if_pos g, b2_t (Or.inl ⟨h1, nI_ne_m1 (by omega), g⟩)]
      · rw [if_neg g, b2_f]
        rintro (⟨_, _, h⟩ | ⟨h, _⟩)
        · exact g h
        · exact h h1
  · have d : ¬ gA T 9 i = 0 := by rw [h1]; decide
    rw [if_neg d, if_pos (inb_nI (show c < 61 by omega) (by decide)), nI_clamp (show c < 2 ^ 31 by omega), ep, ew, ixm8, if_pos (inb_nI (show 8 * p + w < 64 by omega) (by decide)), nI_clamp (show 8 * p + w < 2 ^ 31 by omega), nI_clamp (show p < 2 ^ 31 by omega), nI_clamp (show w < 2 ^ 31 by omega)]
    by_cases g : gA T 3 (8 * p + w) = gA T 8 i
    · rw [if_pos g, b2_t (Or.inr ⟨d, g⟩)]
    · rw [if_neg g, b2_f]
      rintro (⟨h, _⟩ | ⟨_, h⟩)
      · exact d h
      · exact g h
theorem div8 {a : Nat} (h : a < 2 ^ 31) : nI a / 8 = nI (a / 8) := pk_div h (by decide) (by decide)
theorem rem8 {a : Nat} (h : a < 2 ^ 31) : nI a - nI a / 8 * 8 = nI (a % 8) := pk_rem h (by decide) (by decide)
theorem axC {S : StC} {N w v : Nat} {x : Int64} (d1 : ¬ nI N < (128 : Int32)) (e1 : (nI N - (128 : Int32)) / 8 = nI w) (e2 : nI N - nI N / 8 * 8 = nI v) : m_CX_isAskingMet S (nI N) x = (m_CPlatforms_valueAt S (pIn x) (nI w)).bind fun q7 => if q7 = nI v then some 1 else some 0 := by
  have w1 : m_CAskings_isAboutAxis S (nI N) = some 1 := if_neg d1
  have w2 : m_CAskings_whichOf S (nI N) = some (nI w) := by
    unfold m_CAskings_whichOf
    rw [w1, Option.bind_some, if_neg one0, e1]
  have w3 : m_CAskings_valueOf S (nI N) = some (nI v) := congrArg some e2
  have w4 : m_CCodes_platformIn S x = some (pIn x) := rfl
  unfold m_CX_isAskingMet
  rw [w2, Option.bind_some, w3, Option.bind_some, w1, Option.bind_some, if_neg one0, w4, Option.bind_some]
theorem askC {S : StC} {T : StM} {nS nP c i : Nat} {x : Int64} (hS : nS ≤ 16) (hSc : gI S 0 = nI nS) (hal : ∀ i, i < nS → gA S 2 i = gA T 0 i) (hpl : RPlat (gA S 3) (gA T 3)) (hP : nP ≤ 8) (ha : askP S T nS i) (hr : RowX T nS nP c x) : m_CX_isAskingMet S (gA S 5 i) x = some (b2 (okA nS T c i)) := by
  obtain ⟨w, v, hv, ew, ev, h⟩ := ha
  obtain ⟨⟨⟨p, hp, ep⟩, hrow⟩, henc⟩ := hr
  unfold okA
  rcases h with ⟨h1, h2, h3⟩ | ⟨h1, h2, h3⟩
  · have d1 : nI (8 * w + v) < (128 : Int32) := nI_lt (b := 128) (by omega) (by decide)
    simp only [m_CX_isAskingMet, m_CAskings_whichOf, m_CAskings_valueOf, m_CAskings_isAboutAxis, h3, if_pos d1, Option.bind_some, if_true, div8 (show 8 * w + v < 2 ^ 31 by omega), rem8 (show 8 * w + v < 2 ^ 31 by omega), show (8 * w + v) / 8 = w by omega, show (8 * w + v) % 8 = v by omega]
    have e8 : nI (8 * w + v) - nI w * 8 = nI v := by
      have := rem8 (show 8 * w + v < 2 ^ 31 by omega)
      rw [div8 (show 8 * w + v < 2 ^ 31 by omega), show (8 * w + v) / 8 = w by omega, show (8 * w + v) % 8 = v by omega] at this
      exact this
    try rw [e8]
    rw [← ew, baseC (T := T) hSc hS hal, Option.bind_some]
    rcases bas_is (n := nS) (ma := gA T 0) hS (gA T 7 i) with e | ⟨j, hj, hm, e⟩
    · rw [if_pos e, b2_f]
      rintro (⟨_, h, _⟩ | ⟨h, _⟩)
      · exact h e
      · exact h h1
    · have d : ¬ bas nS (gA T 0) (gA T 7 i) = -1 := by rw [e]; exact nI_ne_m1 (by omega)
      rw [if_neg d, e]
      obtain ⟨u, hu, eu⟩ := hrow j hj hm
      have ev2 : vIn x (nI j) = gA T 5 (16 * c + j) := by
        rw [enc_val henc (show j < 16 by omega) (rowV_lt ⟨⟨p, hp, ep⟩, hrow⟩ j), rowV_at hj hm, eu, nI_clamp (by omega)]
      show (if vIn x (nI j) = nI v then some 1 else some 0) = _
      rw [ev2, nI_clamp (show j < 2 ^ 31 by omega), ev]
      by_cases g : gA T 5 (16 * c + j) = nI v
      · rw [if_pos g, b2_t (Or.inl ⟨h1, nI_ne_m1 (by omega), g⟩)]
      · rw [if_neg g, b2_f]
        rintro (⟨_, _, h⟩ | ⟨h, _⟩)
        · exact g h
        · exact h h1
  · generalize hN : 128 + 8 * w + v = N at h3
    have d1 : ¬ nI N < (128 : Int32) := nI_nlt (b := 128) (by omega) (by omega)
    have d : ¬ gA T 9 i = 0 := by rw [h1]; decide
    have e1 : (nI N - (128 : Int32)) / 8 = nI w := by
      have : nI N = nI (8 * w + v) + nI 128 := by rw [nI_add, show 8 * w + v + 128 = N by omega]
      rw [this, show (128 : Int32) = nI 128 from rfl, Int32.add_sub_cancel, div8 (by omega), show (8 * w + v) / 8 = w by omega]
    have e2 : nI N - nI N / 8 * 8 = nI v := by
      rw [rem8 (by omega), show N % 8 = v by omega]
    rw [h3, axC d1 e1 e2]
    have ep2 : pIn x = nI p := by
      have := henc
      rw [ep, nI_clamp (show p < 2 ^ 31 by omega)] at this
      exact enc_plat this (by omega)
    rw [ep2, m_CPlatforms_valueAt, ixc8, if_pos (inb_nI (show 8 * p + w < 64 by omega) (by decide)), Option.bind_some, nI_clamp (show 8 * p + w < 2 ^ 31 by omega), hpl _ (by omega), ep, ew, nI_clamp (show p < 2 ^ 31 by omega), nI_clamp (show w < 2 ^ 31 by omega), ev]
    by_cases g : gA T 3 (8 * p + w) = nI v
    · rw [if_pos g, b2_t (Or.inr ⟨d, g⟩)]
    · rw [if_neg g, b2_f]
      rintro (⟨h, _⟩ | ⟨_, h⟩)
      · exact d h
      · exact g h
/-- a CONDITION HOLDS in row c -/
def hldT (nS : Nat) (T : StM) (q c : Nat) : Prop := ∀ j, j < (gA T 6 q).toNatClampNeg → okA nS T c (6 * q + j)
theorem holdM {S : StC} {T : StM} {nS nP nK nQ nT nE nN q c : Nat} {x : Int64} (h : RelB S T nS nP nK nQ nT nE nN) (hq : q < 40) (hc : c ≤ 60) (hr : RowX T nS nP c x) : m_MX_isHolding T (nI q) (nI c) = some (b2 (hldT nS T q c)) := by
  obtain ⟨⟨hS, hSc, hSm⟩, ⟨hP, hPc, hPm⟩, hK, hQ, hT, hE, hN, r1, r2, r3, r4, -⟩ := h
  obtain ⟨k, hk, ekc, ekm, hk0, hkj⟩ := r4 q hq
  have ek : (gA T 6 q).toNatClampNeg = k := by rw [ekm, nI_clamp (by omega)]
  have hl := andL (fun n x y => L_MX_isHolding_8 T (nI q) (nI c) n x y) (6 * q) k (fun j => okA nS T c (6 * q + j)) (fun n P => by
    simp only [L_MX_isHolding_8, inb_nI hq (show (40 : Nat) < 2 ^ 31 by omega), if_true, nI_clamp (show q < 2 ^ 31 by omega), ekm, ixm6]
    rw [if_pos (nI_le (by omega) (by omega))]) (fun n P i hi => by
    simp only [L_MX_isHolding_8, inb_nI hq (show (40 : Nat) < 2 ^ 31 by omega), if_true, nI_clamp (show q < 2 ^ 31 by omega), ekm, ixm6]
    rw [if_neg (nI_ge (by omega) (by omega)), nI_1, show 6 * q + i + 1 = 6 * q + (i + 1) by omega]
    by_cases hP' : P
    · rw [b2_t hP', if_neg one0, isSoM (S := S) hS hSm hP hc (show 6 * q + i < 240 by omega) (hkj i hi) hr, Option.bind_some]
      by_cases g : okA nS T c (6 * q + i)
      · rw [b2_t g, if_neg one0, ← b2_and1 hP' g]
      · rw [b2_f g, if_pos rfl, ← b2_andr g]
    · rw [b2_f hP', if_pos rfl, ← b2_and0 hP']) k 0 100 True (by omega) (by omega) (by omega)
  rw [b2_t trivial] at hl
  unfold m_MX_isHolding
  rw [m6, show nI (6 * q) = nI (6 * q + 0) from rfl, show L_MX_isHolding_8 T (nI q) (nI c) 100 1 (nI (6 * q + 0)) = _ from hl, Option.bind_some, if_pos (b2_isB _)]
  congr 1
  apply b2_iff
  unfold hldT
  rw [ek]
  exact ⟨fun ⟨_, g⟩ j hj => g j (Nat.zero_le _) hj, fun g => ⟨trivial, fun j _ hj => g j hj⟩⟩
theorem metC_l {S : StC} {T : StM} {nS nP nK nQ nT nE nN q c k : Nat} {x : Int64} (h : RelB S T nS nP nK nQ nT nE nN) (hq : q < 40) (hr : RowX T nS nP c x) (hk : k ≤ 6) (ekc : gA S 4 q = nI k) (hkj : ∀ j, j < k → askP S T nS (6 * q + j)) : ∀ (m i n : Nat), m = k - i → i ≤ k → m < n → ((∀ j, i ≤ j → j < k → okA nS T c (6 * q + j)) → L_CX_isMet_3 S (nI q) x n (nI i) = some (.inl ())) ∧ (¬ (∀ j, i ≤ j → j < k → okA nS T c (6 * q + j)) → L_CX_isMet_3 S (nI q) x n (nI i) = some (.inr 0)) := by
  obtain ⟨⟨hS, hSc, hSm⟩, ⟨hP, hPc, hPm⟩, hK, hQ, hT, hE, hN, r1, r2, r3, -⟩ := h
  intro m
  induction m with
  | zero =>
    intro i n hm hi hn
    obtain ⟨n, rfl⟩ : ∃ k, n = k + 1 := ⟨n - 1, by omega⟩
    refine ⟨fun _ => ?_, fun h => absurd (fun j h1 h2 => absurd h2 (by omega)) h⟩
    rw [L_CX_isMet_3, if_pos (inb_nI hq (by decide)), nI_clamp (by omega), ekc, if_pos (nI_le (by omega) (by omega))]
  | succ m ih =>
    intro i n hm hi hn
    obtain ⟨n, rfl⟩ : ∃ k, n = k + 1 := ⟨n - 1, by omega⟩
    obtain ⟨g1, g2⟩ := ih (i + 1) n (by omega) (by omega) (by omega)
    have hh : L_CX_isMet_3 S (nI q) x (n + 1) (nI i) = if b2 (okA nS T c (6 * q + i)) = 0 then some (.inr 0) else L_CX_isMet_3 S (nI q) x n (nI (i + 1)) := by
      rw [L_CX_isMet_3, if_pos (inb_nI hq (by decide)), nI_clamp (show q < 2 ^ 31 by omega), ekc, if_neg (nI_ge (by omega) (by omega)), m_CConditions_askingAt, ixc6, if_pos (inb_nI (show 6 * q + i < 240 by omega) (by decide)), Option.bind_some, nI_clamp (show 6 * q + i < 2 ^ 31 by omega), askC hS hSc (fun i hi => (r1 i hi).2.2.1) r2 hP (hkj i (by omega)) hr, Option.bind_some, nI_1]
    rw [hh]
    by_cases o : okA nS T c (6 * q + i)
    · rw [if_neg (fun e => b2_0.mp e o)]
      refine ⟨fun h => g1 (fun j h1 h2 => h j (by omega) h2), fun h => g2 (fun h' => h (fun j h1 h2 => ?_))⟩
      by_cases e : j = i
      · rw [e]; exact o
      · exact h' j (by omega) h2
    · rw [if_pos (b2_0.mpr o)]
      exact ⟨fun h => absurd (h i (Nat.le_refl _) (by omega)) o, fun _ => rfl⟩
theorem metC {S : StC} {T : StM} {nS nP nK nQ nT nE nN q c : Nat} {x : Int64} (h : RelB S T nS nP nK nQ nT nE nN) (hq : q < 40) (hr : RowX T nS nP c x) : m_CX_isMet S (nI q) x = some (b2 (hldT nS T q c)) := by
  have h0 := h
  obtain ⟨⟨hS, hSc, hSm⟩, ⟨hP, hPc, hPm⟩, hK, hQ, hT, hE, hN, r1, r2, r3, r4, -⟩ := h
  obtain ⟨k, hk, ekc, ekm, hk0, hkj⟩ := r4 q hq
  have ek : (gA T 6 q).toNatClampNeg = k := by rw [ekm, nI_clamp (by omega)]
  obtain ⟨g1, g2⟩ := metC_l h0 hq hr hk ekc hkj k 0 100 (by omega) (by omega) (by omega)
  unfold m_CX_isMet
  by_cases o : hldT nS T q c
  · have o' := o
    unfold hldT at o
    rw [ek] at o
    rw [show L_CX_isMet_3 S (nI q) x 100 0 = _ from g1 (fun j _ hj => o j hj), b2_t o']
    rfl
  · have o' := o
    unfold hldT at o
    rw [ek] at o
    rw [show L_CX_isMet_3 S (nI q) x 100 0 = _ from g2 (fun h => o (fun j hj => h j (Nat.zero_le _) hj)), b2_f o']
    rfl
theorem row_of {S : StC} {T : StM} {nS nP nK nQ nT nE nN c : Nat} (h : RelB S T nS nP nK nQ nT nE nN) (hc : c < nK) : RowX T nS nP c (gB S 0 c) := by
  obtain ⟨-, -, -, -, -, -, -, -, -, r3, -⟩ := h
  exact r3 c hc
theorem op15 : Op15 Rel := by
  intro S T a1 a2 h
  have h0 := h
  obtain ⟨nS, nP, nK, nQ, nT, nE, nN, nR, hall⟩ := h
  obtain ⟨hb, hp⟩ := rel_B hall
  obtain ⟨⟨hS, hSc, hSm⟩, ⟨hP, hPc, hPm⟩, ⟨hK, hKc, hKm⟩, ⟨hQ, hQc, hQm⟩, -⟩ := id hb
  rcases rng a1 (n := nQ) (by omega) with ⟨q, hq, rfl⟩ | hno
  · have tq := thr_yes hq (show nQ < 2 ^ 31 by omega)
    rcases rng a2 (n := nK) (by omega) with ⟨c, hc, rfl⟩ | hno
    · have tc := thr_yes hc (show nK < 2 ^ 31 by omega)
      have e1 := metC hb (show q < 40 by omega) (row_of hb hc)
      have e2 := holdM hb (show q < 40 by omega) (show c ≤ 60 by omega) (row_of hb hc)
      refine ⟨b2 (hldT nS T q c), ?_, ?_, h0⟩
      · simp only [m_CX_holds, cQ_e, hQc, tq, cK_e, hKc, tc, Option.bind_some, if_neg one0, inb_nI (show c < 60 by omega) (show (60 : Nat) < 2 ^ 31 by omega), if_true, nI_clamp (show c < 2 ^ 31 by omega), e1, b2_isB]
      · simp only [m_MX_holds, in_e, hQm, tq, hKm, tc, Option.bind_some, if_neg one0, e2]
        by_cases o : hldT nS T q c
        · rw [b2_t o, if_neg one0]
        · rw [b2_f o, if_pos rfl]
    · refine ⟨0, ?_, ?_, h0⟩
      · simp only [m_CX_holds, cQ_e, hQc, tq, cK_e, hKc, thr_no hno, Option.bind_some, if_neg one0, if_true]
      · simp only [m_MX_holds, in_e, hQm, tq, hKm, thr_no hno, Option.bind_some, if_neg one0, if_true]
  · refine ⟨0, ?_, ?_, h0⟩
    · simp only [m_CX_holds, cQ_e, hQc, thr_no hno, Option.bind_some, if_true]
    · simp only [m_MX_holds, in_e, hQm, thr_no hno, Option.bind_some, if_true]
