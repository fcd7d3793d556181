/-! PAIRS: a long's bits, and what holds on the way -/
def lbt (x : Int64) (i : Nat) : Bool := x.toBitVec.getLsbD i
theorem l_or (x y : Int64) (i : Nat) : lbt (x ||| y) i = (lbt x i || lbt y i) := by unfold lbt; rw [Int64.toBitVec_or, BitVec.getLsbD_or]
theorem l_and (x y : Int64) (i : Nat) : lbt (x &&& y) i = (lbt x i && lbt y i) := by unfold lbt; rw [Int64.toBitVec_and, BitVec.getLsbD_and]
theorem l_ext {x y : Int64} (h : ∀ i, i < 64 → lbt x i = lbt y i) : x = y := wb_inj (BitVec.eq_of_getLsbD_eq (fun i hi => h i hi))
theorem l_0 (i : Nat) : lbt 0 i = false := BitVec.getLsbD_zero
theorem l_1 {b : Nat} (hb : b < 64) (i : Nat) (hi : i < 64) : lbt ((1 : Int64) <<< ((nI b).toInt64 &&& 63)) i = decide (b = i) := by
  unfold lbt
  rw [show (1 : Int64) = lN 1 from rfl, wb_shl 1 hb, lN_tb _ hi, Nat.one_mul, Nat.testBit_two_pow]
def RepL (x : Int64) (P : Nat → Prop) : Prop := ∀ i, i < 64 → (lbt x i = true ↔ P i)
theorem repL_0 : RepL 0 (fun _ => False) := fun i _ => by rw [l_0]; exact ⟨fun h => (by cases h), False.elim⟩
theorem repL_or1 {x : Int64} {P : Nat → Prop} (h : RepL x P) {b : Nat} (hb : b < 64) : RepL (x ||| ((1 : Int64) <<< ((nI b).toInt64 &&& 63))) (fun i => P i ∨ b = i) := fun i hi => by
  rw [l_or, l_1 hb i hi, Bool.or_eq_true, h i hi, decide_eq_true_eq]
theorem repL_iff {x : Int64} {P Q : Nat → Prop} (h : RepL x P) (e : ∀ i, i < 64 → (P i ↔ Q i)) : RepL x Q := fun i hi => (h i hi).trans (e i hi)
theorem repL_ext {x y : Int64} {P Q : Nat → Prop} (h : RepL x P) (g : RepL y Q) : x = y ↔ ∀ i, i < 64 → (P i ↔ Q i) := by
  constructor
  · rintro rfl i hi
    exact (h i hi).symm.trans (g i hi)
  · intro e
    apply l_ext
    intro i hi
    have := (h i hi).trans ((e i hi).trans (g i hi).symm)
    cases hx : lbt x i <;> cases hy : lbt y i <;> simp_all
theorem repL_meet {x y : Int64} {P Q : Nat → Prop} (h : RepL x P) (g : RepL y Q) : (x &&& y) = 0 ↔ ∀ i, i < 64 → ¬ (P i ∧ Q i) := by
  have r : RepL (x &&& y) (fun i => P i ∧ Q i) := fun i hi => by rw [l_and, Bool.and_eq_true, h i hi, g i hi]
  rw [repL_ext r repL_0]
  exact ⟨fun e i hi o => (e i hi).mp o, fun e i hi => ⟨e i hi, False.elim⟩⟩
/-- what neither numbers nor PAIRS touch -/
def StT (T T' : StM) : Prop := ∀ k, k < 24 → ¬ k = 4 → ¬ k = 5 → gA T' k = gA T k
theorem stT_M {T T' : StM} {nK : Nat} (g : FrM T T' nK) : StT T T' := fun k _ a b => g.1 k a b
theorem stT_tr {T U V : StM} (h : StT T U) (g : StT U V) : StT T V := fun k a b c => (g k a b c).trans (h k a b c)
theorem clo_st {T T' : StM} (g : StT T T') (nS nE nN nT t b : Nat) : CLo T' nN nT (roT nS nE T') t b ↔ CLo T nN nT (roT nS nE T) t b := by
  unfold CLo roT rwT rsT rbT amT abT
  rw [g 19 (by decide) (by decide) (by decide), g 20 (by decide) (by decide) (by decide), g 17 (by decide) (by decide) (by decide), g 10 (by decide) (by decide) (by decide), g 11 (by decide) (by decide) (by decide), g 12 (by decide) (by decide) (by decide), g 6 (by decide) (by decide) (by decide), g 9 (by decide) (by decide) (by decide), g 0 (by decide) (by decide) (by decide), g 7 (by decide) (by decide) (by decide)]
/-- rows that stay -/
def RwT (T T' : StM) (nK : Nat) : Prop := StT T T' ∧ (∀ c, c < nK → gA T' 4 c = gA T 4 c) ∧ ∀ x, x < 16 * nK → gA T' 5 x = gA T 5 x
theorem rwT_M {T T' : StM} {nK : Nat} (g : FrM T T' nK) : RwT T T' nK := ⟨stT_M g, g.2.2.1, g.2.2.2⟩
theorem ok_rw {T T' : StM} {nS nK c i : Nat} (hS : nS ≤ 16) (g : RwT T T' nK) (hc : c < nK) : okA nS T' c i ↔ okA nS T c i := by
  obtain ⟨g1, g3, g4⟩ := g
  have e5 : gA T' 5 (16 * c + (bas nS (gA T 0) (gA T 7 i)).toNatClampNeg) = gA T 5 (16 * c + (bas nS (gA T 0) (gA T 7 i)).toNatClampNeg) := by
    rcases bas_is (n := nS) (ma := gA T 0) hS (gA T 7 i) with e | ⟨j, hj, hm, e⟩
    · rw [e, show ((-1) : Int32).toNatClampNeg = 0 from rfl]
      exact g4 _ (by omega)
    · rw [e, nI_clamp (show j < 2 ^ 31 by omega)]
      exact g4 _ (by omega)
  unfold okA
  rw [g1 9 (by decide) (by decide) (by decide), g1 0 (by decide) (by decide) (by decide), g1 7 (by decide) (by decide) (by decide), g1 8 (by decide) (by decide) (by decide), g1 3 (by decide) (by decide) (by decide), g3 c hc, e5]
theorem hld_rw {T T' : StM} {nS nK c q : Nat} (hS : nS ≤ 16) (g : RwT T T' nK) (hc : c < nK) : hldT nS T' q c ↔ hldT nS T q c := by
  unfold hldT
  rw [g.1 6 (by decide) (by decide) (by decide)]
  exact ⟨fun h j hj => (ok_rw hS g hc).mp (h j hj), fun h j hj => (ok_rw hS g hc).mpr (h j hj)⟩
/-- the WANT of a TARGET fails -/
def wfT (nS : Nat) (T : StM) (t c : Nat) : Prop := ∃ q : Nat, q < 40 ∧ gA T 17 t = nI q ∧ ¬ hldT nS T q c
theorem wf_rw {T T' : StM} {nS nK c t : Nat} (hS : nS ≤ 16) (g : RwT T T' nK) (hc : c < nK) : wfT nS T' t c ↔ wfT nS T t c := by
  unfold wfT
  rw [g.1 17 (by decide) (by decide) (by decide)]
  exact ⟨fun ⟨q, a, b, d⟩ => ⟨q, a, b, fun o => d ((hld_rw hS g hc).mpr o)⟩, fun ⟨q, a, b, d⟩ => ⟨q, a, b, fun o => d ((hld_rw hS g hc).mp o)⟩⟩
/-- on the way -/
def PrX (S : StC) (T : StM) (nS nK nT p : Nat) : Prop := ∃ t c : Nat, t < nT ∧ c < nK ∧ gA S 21 p = nI t ∧ gA T 24 p = nI t ∧ gA S 22 p = nI c ∧ gA T 25 p = nI c ∧ gA S 23 p = 0 ∧ gA T 26 p = b2 (wfT nS T t c)
def Inv (S : StC) (T : StM) (nS nP nK nQ nT nE nN nR : Nat) : Prop :=
  RelB S T nS nP nK nQ nT nE nN ∧ (nR ≤ 60 ∧ gI S 7 = nI nR ∧ gI T 15 = nI nR) ∧ (∀ t, t < nT → Rep (gA S 8 t) (CLo T nN nT (roT nS nE T) t)) ∧ (∀ p, p < nR → PrX S T nS nK nT p) ∧ ∀ p, p < nR → RepL (gB S 2 p) (fun q => q < nR ∧ ¬ gA T 27 (60 * p + q) = 0)
theorem inv_num {S S' : StC} {T T' : StM} {nS nP nK nK' nQ nT nE nN nR : Nat} (h : Inv S T nS nP nK nQ nT nE nN nR) (r : RelB S' T' nS nP nK' nQ nT nE nN) (hk : nK ≤ nK') (f : FrC S S' nK) (g : FrM T T' nK) : Inv S' T' nS nP nK' nQ nT nE nN nR := by
  obtain ⟨h1, ⟨h2, h3, h4⟩, h5, h6, h7⟩ := h
  have hS : nS ≤ 16 := h1.1.1
  refine ⟨r, ⟨h2, by rw [f.2.1 7 (by decide)]; exact h3, by rw [g.2.1 15 (by decide)]; exact h4⟩, fun t ht => ?_, fun p hp => ?_, fun p hp => ?_⟩
  · rw [f.1]
    exact rep_iff (h5 t ht) (fun b _ => (clo_st (stT_M g) nS nE nN nT t b).symm)
  · obtain ⟨t, c, a1, a2, a3, a4, a5, a6, a7, a8⟩ := h6 p hp
    refine ⟨t, c, a1, by omega, ?_⟩
    rw [f.1, f.1, f.1, g.1 24 (by decide) (by decide), g.1 25 (by decide) (by decide), g.1 26 (by decide) (by decide), b2_iff (wf_rw hS (rwT_M g) a2)]
    exact ⟨a3, a4, a5, a6, a7, a8⟩
  · rw [f.2.2.1 2 (by decide), g.1 27 (by decide) (by decide)]
    exact h7 p hp
theorem frC_rf (S : StC) (nK : Nat) : FrC S S nK := ⟨fun _ => rfl, fun _ _ => rfl, fun _ _ => rfl, fun _ _ => rfl⟩
theorem inv_scr {S : StC} {T T' : StM} {nS nP nK nQ nT nE nN nR : Nat} (h : Inv S T nS nP nK nQ nT nE nN nR) (g : FrS T T') : Inv S T' nS nP nK nQ nT nE nN nR := inv_num h (relB_scr h.1 g) (Nat.le_refl _) (frC_rf S nK) (frS_M h.1.2.2.1.1 g)
/-- what a step leaves alone -/
def Stq (S S' : StC) (T T' : StM) (nK nR : Nat) : Prop := (∀ p, p < nR → gA S' 21 p = gA S 21 p ∧ gA S' 22 p = gA S 22 p) ∧ (∀ c, c < nK → gB S' 0 c = gB S 0 c) ∧ StT T T'
theorem stp_rf (S : StC) (T : StM) (nK nR : Nat) : Stq S S T T nK nR := ⟨fun _ _ => ⟨rfl, rfl⟩, fun _ _ => rfl, fun _ _ _ _ => rfl⟩
theorem stp_tr {S S1 S2 : StC} {T T1 T2 : StM} {nK nR nK1 nR1 : Nat} (h : Stq S S1 T T1 nK nR) (g : Stq S1 S2 T1 T2 nK1 nR1) (hk : nK ≤ nK1) (hr : nR ≤ nR1) : Stq S S2 T T2 nK nR := ⟨fun p hp => ⟨((g.1 p (by omega)).1).trans (h.1 p hp).1, ((g.1 p (by omega)).2).trans (h.1 p hp).2⟩, fun c hc => (g.2.1 c (by omega)).trans (h.2.1 c hc), stT_tr h.2.2 g.2.2⟩
theorem stp_num {S S' : StC} {T T' : StM} {nK nR : Nat} (f : FrC S S' nK) (g : FrM T T' nK) : Stq S S' T T' nK nR := ⟨fun p _ => ⟨by rw [f.1], by rw [f.1]⟩, f.2.2.2, stT_M g⟩
/-- one more lead -/
theorem inv_lead {S : StC} {T : StM} {nS nP nK nQ nT nE nN nR p r : Nat} (h : Inv S T nS nP nK nQ nT nE nN nR) (hp : p < nR) (hr : r < nR) : Inv (tB S 2 (nI p) (gB S 2 p ||| ((1 : Int64) <<< ((nI r).toInt64 &&& 63)))) (tA T 27 (nI (60 * p + r)) (vp_nar .boolean 1)) nS nP nK nQ nT nE nN nR := by
  obtain ⟨h1, ⟨h2, h3, h4⟩, h5, h6, h7⟩ := h
  refine ⟨h1, ⟨h2, h3, h4⟩, h5, h6, fun q hq => ?_⟩
  show RepL (vp_updL (gB S 2) (nI p).toNatClampNeg _ q) (fun b => b < nR ∧ ¬ upd (gA T 27) (nI (60 * p + r)).toNatClampNeg (vp_nar .boolean 1) (60 * q + b) = 0)
  rw [nI_clamp (show p < 2 ^ 31 by omega), nI_clamp (show 60 * p + r < 2 ^ 31 by omega), updL_e]
  by_cases e : q = p
  · rw [if_pos e]
    refine repL_iff (repL_or1 (h7 p hp) (show r < 64 by omega)) (fun b hb => ?_)
    rw [upd_e, e]
    by_cases c : b = r
    · rw [if_pos (by omega)]
      exact ⟨fun _ => ⟨by omega, one0⟩, fun _ => Or.inr c.symm⟩
    · rw [if_neg (by omega)]
      exact ⟨fun o => o.elim id (fun o => absurd o.symm c), Or.inl⟩
  · rw [if_neg e]
    refine repL_iff (h7 q hq) (fun b hb => ?_)
    rw [upd_e]
    by_cases c : b < nR
    · rw [if_neg (by omega)]
    · exact ⟨fun o => absurd o.1 c, fun o => absurd o.1 c⟩
