/-! what was chosen, in one long -/
theorem nI_mod (n : Nat) : nI (n % 2 ^ 32) = nI n := by
  apply Int32.toBitVec_inj.mp
  show BitVec.ofNat 32 (n % 2 ^ 32) = BitVec.ofNat 32 n
  apply BitVec.eq_of_toNat_eq
  rw [BitVec.toNat_ofNat, BitVec.toNat_ofNat, Nat.mod_mod]
theorem or_add {i m : Nat} (h : m < 2 ^ i) : 2 ^ i ||| m = 2 ^ i + m := by
  have := Nat.two_pow_add_eq_or_of_lt h 1
  rw [Nat.mul_one] at this
  exact this.symm
theorem ofV_form (v : Int32) : ∃ m : Nat, m < 2 ^ 32 ∧ ofV v = lN (2 ^ 32 + m) ∧ v = nI m := by
  obtain ⟨k, hk, e⟩ := wb_of v.toInt64
  have hm : k % 2 ^ 32 < 2 ^ 32 := Nat.mod_lt _ (Nat.two_pow_pos 32)
  refine ⟨k % 2 ^ 32, hm, ?_, ?_⟩
  · unfold ofV
    rw [e, show (4294967295 : Int64) = lN (2 ^ 32 - 1) from rfl, wb_mask hk (by decide), show (4294967296 : Int64) = lN (2 ^ 32) from rfl, wb_or (by decide) (by omega), or_add hm]
  · rw [nI_mod, ← lN_i, ← e, Int32.toInt32_toInt64]
theorem ofC_form {a b : Nat} (ha : a < 8) (hb : b < 8) : ofC a b = lN (2 ^ 33 + (8 * a + b)) := by
  unfold ofC
  rw [ixc8, nI_l (by omega), show (8589934592 : Int64) = lN (2 ^ 33) from rfl, wb_or (by decide) (by omega), or_add (by omega)]
/-- the kind of what was chosen -/
def kdOf (c : Int64) : Int32 := ((c.toUInt64 >>> ((32 : Int32).toInt64.toUInt64 &&& Int64.toUInt64 63)).toInt64).toInt32
theorem kd_lN {n : Nat} (h : n < 2 ^ 64) : kdOf (lN n) = nI (n / 2 ^ 32) := by
  unfold kdOf
  rw [show (32 : Int32) = nI 32 from rfl, wb_shr h (by decide), lN_i]
theorem kd_0 : kdOf 0 = 0 := by
  rw [show (0 : Int64) = lN 0 from rfl, kd_lN (by decide)]; rfl
theorem kd_V (v : Int32) : kdOf (ofV v) = 1 := by
  obtain ⟨m, hm, e, -⟩ := ofV_form v
  rw [e, kd_lN (by omega), show (2 ^ 32 + m) / 2 ^ 32 = 1 by omega]; rfl
theorem kd_C {a b : Nat} (ha : a < 8) (hb : b < 8) : kdOf (ofC a b) = 2 := by
  rw [ofC_form ha hb, kd_lN (by omega), show (2 ^ 33 + (8 * a + b)) / 2 ^ 32 = 2 by omega]; rfl
theorem low_V (v : Int32) : (ofV v).toInt32 = v := by
  obtain ⟨m, hm, e, e2⟩ := ofV_form v
  rw [e, lN_i, ← nI_mod, show (2 ^ 32 + m) % 2 ^ 32 = m by omega, e2]
theorem low_C {a b : Nat} (ha : a < 8) (hb : b < 8) : (ofC a b).toInt32 = nI (8 * a + b) := by
  rw [ofC_form ha hb, lN_i, ← nI_mod, show (2 ^ 33 + (8 * a + b)) % 2 ^ 32 = 8 * a + b by omega]
theorem two1 : ¬ (2 : Int32) = 1 := by decide
theorem zero1 : ¬ (0 : Int32) = 1 := by decide
theorem zero2 : ¬ (0 : Int32) = 2 := by decide
theorem one2 : ¬ (1 : Int32) = 2 := by decide
theorem kdC_e (S : StC) (c : Int64) : m_CChoices_kindOf S c = some (kdOf c) := rfl
theorem op17 : Op17 Rel := by
  intro S T a1 h
  have h0 := h
  obtain ⟨nS, nP, nK, nQ, nT, nE, nN, nR, hS, hP, hK, hQ, hT, hE, hN, hR, r1, r2, r3, r4, r5, r6, r7, r8, r9, r10, r11, r12, r13, r14⟩ := h
  have nothing : gL S 0 = 0 → m_CX_chosen S a1 = some (-1) := fun e => by
    unfold m_CX_chosen
    rw [kdC_e, e, kd_0, Option.bind_some, if_neg zero1, if_neg zero2, if_neg zero2]
  rcases r14 with ⟨k1, e⟩ | ⟨k1, e⟩ | ⟨k1, e⟩ | ⟨k1, a, b, ha, hb, ef, eg, e⟩
  · refine ⟨-1, nothing e, ?_, h0⟩
    unfold m_MX_chosen
    rw [k1, if_neg (by decide), if_neg (by decide)]
  · refine ⟨-1, nothing e, ?_, h0⟩
    unfold m_MX_chosen
    rw [k1, if_neg (by decide), if_neg (by decide)]
  · by_cases c : a1 = 0
    · refine ⟨gI T 8, ?_, ?_, h0⟩
      · unfold m_CX_chosen
        rw [kdC_e, e, kd_V, Option.bind_some, if_pos rfl, if_pos c]
        show some (ofV (gI T 8)).toInt32 = _
        rw [low_V]
      · unfold m_MX_chosen
        rw [k1, if_pos rfl, if_pos c]
    · refine ⟨-1, ?_, ?_, h0⟩
      · unfold m_CX_chosen
        rw [kdC_e, e, kd_V, Option.bind_some, if_pos rfl, if_neg c, if_neg one2, if_neg one2]
      · unfold m_MX_chosen
        rw [k1, if_pos rfl, if_neg c]
  · have hC : m_CX_chosen S a1 = if a1 = 0 then some (nI a) else if a1 = 1 then some (nI b) else some (-1) := by
      have w1 : m_CChoices_firstOf S (ofC a b) = some (nI a) := by
        unfold m_CChoices_firstOf
        rw [low_C ha hb, div8 (by omega), show (8 * a + b) / 8 = a by omega]
      have w2 : m_CChoices_secondOf S (ofC a b) = some (nI b) := by
        unfold m_CChoices_secondOf
        rw [low_C ha hb, rem8 (by omega), show (8 * a + b) % 8 = b by omega]
      unfold m_CX_chosen
      rw [kdC_e, e, kd_C ha hb, Option.bind_some, if_neg two1, if_pos rfl, w1, Option.bind_some, if_pos rfl, w2, Option.bind_some]
    rw [hC]
    rcases rng a1 (n := 2) (by omega) with ⟨j, hj, rfl⟩ | hno
    · have tj : thr (nI j) 2 = some 1 := thr_yes hj (show (2 : Nat) < 2 ^ 31 by omega)
      rcases (show j = 0 ∨ j = 1 by omega) with rfl | rfl
      · refine ⟨nI a, if_pos rfl, ?_, h0⟩
        unfold m_MX_chosen
        rw [k1, if_neg two1, if_pos rfl, in_e, tj, Option.bind_some, if_neg one0, if_pos (show nI 0 = 0 from rfl), ef]
      · refine ⟨nI b, ?_, ?_, h0⟩
        · rw [if_neg (show ¬ nI 1 = 0 from one0), if_pos (show nI 1 = 1 from rfl)]
        · unfold m_MX_chosen
          rw [k1, if_neg two1, if_pos rfl, in_e, tj, Option.bind_some, if_neg one0, if_neg (show ¬ nI 1 = 0 from one0), eg]
    · have tj : thr a1 2 = some 0 := thr_no hno
      refine ⟨-1, ?_, ?_, h0⟩
      · rw [if_neg, if_neg]
        · rintro rfl
          rcases hno with h | h
          · exact absurd h (by decide)
          · exact absurd h (by decide)
        · rintro rfl
          rcases hno with h | h
          · exact absurd h (by decide)
          · exact absurd h (by decide)
      · unfold m_MX_chosen
        rw [k1, if_neg two1, if_pos rfl, in_e, tj, Option.bind_some, if_pos rfl]
