/-! what a TARGET leads to -/
def RCh (T : StM) (nN nT t u : Nat) : Prop := ∀ Y : Nat → Prop, Y t → (∀ e f v, e < nN → f < nT → v < nT → gA T 19 e = nI f → gA T 20 e = nI v → Y f → Y v) → Y u
theorem rch_rf (T : StM) (nN nT t : Nat) : RCh T nN nT t t := fun _ h _ => h
theorem rch_edge {T : StM} {nN nT t e f v : Nat} (he : e < nN) (hf : f < nT) (hv : v < nT) (ef : gA T 19 e = nI f) (ev : gA T 20 e = nI v) (h : RCh T nN nT t f) : RCh T nN nT t v := fun Y h1 h2 => h2 e f v he hf hv ef ev (h Y h1 h2)
theorem clo_rch {T : StM} {nN nT : Nat} {R : Nat → Nat → Prop} {t b : Nat} (ht : t < nT) : CLo T nN nT R t b ↔ ∃ u, u < nT ∧ RCh T nN nT t u ∧ R u b := by
  constructor
  · intro h
    refine (h (fun v => v < nT ∧ ∃ u, u < nT ∧ RCh T nN nT v u ∧ R u b) (fun u hu hr => ⟨hu, u, hu, rch_rf T nN nT u, hr⟩) ?_).2
    rintro e f u he hf hu ef eu ⟨-, w, hw, h1, h2⟩
    exact ⟨hf, w, hw, fun Y g1 g2 => h1 Y (g2 e f u he hf hu ef eu g1) g2, h2⟩
  · rintro ⟨u, hu, h1, h2⟩
    exact h1 (fun v => CLo T nN nT R v b → CLo T nN nT R t b) id (fun e f v he hf hv ef ev g c => g (clo_edge he hf hv ef ev c)) (clo_base hu h2)
def stepF (T : StM) (Z : Nat → Prop) (e v : Nat) : Prop := Z v ∨ (v < 16 ∧ gA T 20 e = nI v ∧ ∃ f, f < 16 ∧ gA T 19 e = nI f ∧ Z f)
def passF (T : StM) : Nat → Nat → (Nat → Prop) → Nat → Prop
  | 0, _, Z => Z
  | m + 1, i, Z => passF T m (i + 1) (fun v => stepF T Z i v)
theorem passF_mono (T : StM) : ∀ (m i : Nat) (Z : Nat → Prop) (v : Nat), Z v → passF T m i Z v := by
  intro m
  induction m with
  | zero => intro i Z v h; exact h
  | succ m ih => intro i Z v h; exact ih (i + 1) _ v (Or.inl h)
theorem passF_one (T : StM) : ∀ (m i : Nat) (Z : Nat → Prop) (e f v : Nat), i ≤ e → e < i + m → gA T 19 e = nI f → gA T 20 e = nI v → f < 16 → v < 16 → Z f → passF T m i Z v := by
  intro m
  induction m with
  | zero => intro i Z e f v h1 h2; exact absurd h2 (by omega)
  | succ m ih =>
    intro i Z e f v h1 h2 ef ev hf hv h
    by_cases c : e = i
    · subst c
      exact passF_mono T m (e + 1) _ v (Or.inr ⟨hv, ev, f, hf, ef, h⟩)
    · exact ih (i + 1) _ e f v (by omega) (by omega) ef ev hf hv (Or.inl h)
theorem passF_sound (T : StM) (nN nT t : Nat) (hT : nT ≤ 16) (hE : Edg T nN nT) : ∀ (m i : Nat) (Z : Nat → Prop), i + m ≤ nN → (∀ v, Z v → v < nT ∧ RCh T nN nT t v) → ∀ v, passF T m i Z v → v < nT ∧ RCh T nN nT t v := by
  intro m
  induction m with
  | zero => intro i Z hi h v hv; exact h v hv
  | succ m ih =>
    intro i Z hi h
    refine ih (i + 1) _ (by omega) (fun v hv => ?_)
    rcases hv with hv | ⟨h16, ev, f, hf, ef, hv⟩
    · exact h v hv
    · obtain ⟨f', v', hf', hv', ef', ev'⟩ := hE i (by omega)
      have e1 : f = f' := nI_inj (by omega) (by omega) (ef.symm.trans ef')
      have e2 : v = v' := nI_inj (by omega) (by omega) (ev.symm.trans ev')
      subst e1; subst e2
      exact ⟨hv', rch_edge (by omega) hf' hv' ef ev (h f hv).2⟩
theorem led_pass {T : StM} {nN nT : Nat} (hT : nT ≤ 16) (hN : nN ≤ 40) (hNm : gI T 6 = nI nN) (hE : Edg T nN nT) (x3 : Int32) : ∀ (m i n : Nat) (x : Int32) (Z : Nat → Prop), m = nN - i → i ≤ nN → m < n → Rep x Z → ∃ y, L_MX_led_16 T x3 n x (nI i) = some y ∧ Rep y (passF T m i Z) := by
  intro m
  induction m with
  | zero =>
    intro i n x Z hm hi hn hZ
    obtain ⟨n, rfl⟩ : ∃ k, n = k + 1 := ⟨n - 1, by omega⟩
    exact ⟨x, by rw [L_MX_led_16, hNm, if_pos (nI_le (by omega) (by omega))], hZ⟩
  | succ m ih =>
    intro i n x Z hm hi hn hZ
    obtain ⟨n, rfl⟩ : ∃ k, n = k + 1 := ⟨n - 1, by omega⟩
    obtain ⟨f, v, hf, hv, ef, ev⟩ := hE i (by omega)
    have hu : L_MX_led_16 T x3 (n + 1) x (nI i) = if bt x f = true then L_MX_led_16 T x3 n (x ||| ((1 : Int32) <<< (nI v &&& 31))) (nI (i + 1)) else L_MX_led_16 T x3 n (x ||| (0 : Int32)) (nI (i + 1)) := by
      rw [L_MX_led_16, hNm, if_neg (nI_ge (by omega) (by omega)), if_pos (inb_nI (show i < 40 by omega) (by decide)), nI_clamp (show i < 2 ^ 31 by omega), ef, ev, nI_1]
      by_cases c : bt x f = true
      · rw [if_pos c, if_pos ((bitM1 x (show f < 31 by omega)).mpr c)]
      · rw [if_neg c, if_neg (fun h => c ((bitM1 x (show f < 31 by omega)).mp h))]
    rw [hu]
    by_cases c : bt x f = true
    · rw [if_pos c]
      refine ih (i + 1) n _ _ (by omega) (by omega) (by omega) (rep_iff (rep_or hZ (rep_1 (show v < 32 by omega))) (fun w hw => ?_))
      constructor
      · rintro (h | rfl)
        · exact Or.inl h
        · exact Or.inr ⟨by omega, ev, f, by omega, ef, (hZ f (by omega)).mp c⟩
      · rintro (h | ⟨h16, h1, _⟩)
        · exact Or.inl h
        · exact Or.inr (nI_inj (by omega) (by omega) (h1.symm.trans ev))
    · rw [if_neg c]
      refine ih (i + 1) n _ _ (by omega) (by omega) (by omega) (rep_iff (rep_or hZ rep_0) (fun w hw => ?_))
      constructor
      · rintro (h | h)
        · exact Or.inl h
        · exact h.elim
      · rintro (h | ⟨h16, h1, f', hf', h2, h3⟩)
        · exact Or.inl h
        · have : f' = f := nI_inj (by omega) (by omega) (h2.symm.trans ef)
          subst this
          exact absurd ((hZ f' (by omega)).mpr h3) c
/-- the reference's next set, and the sets one behind another -/
def nxL (T : StM) (x : Int32) : Int32 := (L_MX_led_16 T x 100 x 0).getD 0
def sqL (T : StM) (x : Int32) : Nat → Int32
  | 0 => x
  | k + 1 => nxL T (sqL T x k)
def sqF (T : StM) (nN : Nat) (Z : Nat → Prop) : Nat → Nat → Prop
  | 0 => Z
  | k + 1 => passF T nN 0 (sqF T nN Z k)
theorem nx_rep {T : StM} {nN nT : Nat} (hT : nT ≤ 16) (hN : nN ≤ 40) (hNm : gI T 6 = nI nN) (hE : Edg T nN nT) {x : Int32} {Z : Nat → Prop} (h : Rep x Z) : L_MX_led_16 T x 100 x 0 = some (nxL T x) ∧ Rep (nxL T x) (passF T nN 0 Z) := by
  obtain ⟨y, g1, g2⟩ := led_pass hT hN hNm hE x nN 0 100 x Z (by omega) (by omega) (by omega) h
  have g1' : L_MX_led_16 T x 100 x 0 = some y := g1
  have : nxL T x = y := by unfold nxL; rw [g1']; rfl
  rw [this]
  exact ⟨g1', g2⟩
theorem sq_rep {T : StM} {nN nT : Nat} (hT : nT ≤ 16) (hN : nN ≤ 40) (hNm : gI T 6 = nI nN) (hE : Edg T nN nT) {x : Int32} {Z : Nat → Prop} (h : Rep x Z) : ∀ k, Rep (sqL T x k) (sqF T nN Z k) := by
  intro k
  induction k with
  | zero => exact h
  | succ k ih => exact (nx_rep hT hN hNm hE ih).2
theorem led_stop {T : StM} {nN nT : Nat} (hT : nT ≤ 16) (hN : nN ≤ 40) (hNm : gI T 6 = nI nN) (hE : Edg T nN nT) {x : Int32} (hst : sqL T x 18 = sqL T x 17) : ∀ (j k n : Nat), j + k = 17 → j < n → ∃ m, L_MX_led_6 T n (sqL T x (k + 1)) (sqL T x k) = some (sqL T x m) ∧ nxL T (sqL T x m) = sqL T x m := by
  intro j
  induction j with
  | zero =>
    intro k n hk hn
    obtain ⟨n, rfl⟩ : ∃ k, n = k + 1 := ⟨n - 1, by omega⟩
    have : k = 17 := by omega
    subst this
    refine ⟨18, by rw [L_MX_led_6, if_pos hst], ?_⟩
    show nxL T (sqL T x 18) = sqL T x 18
    conv => lhs; rw [hst]
    rfl
  | succ j ih =>
    intro k n hk hn
    obtain ⟨n, rfl⟩ : ∃ k, n = k + 1 := ⟨n - 1, by omega⟩
    by_cases c : sqL T x (k + 1) = sqL T x k
    · refine ⟨k + 1, by rw [L_MX_led_6, if_pos c], ?_⟩
      conv => lhs; rw [c]
      rfl
    · have hr : Rep (sqL T x (k + 1)) (fun i => bt (sqL T x (k + 1)) i = true) := fun i _ => Iff.rfl
      rw [L_MX_led_6, if_neg c, (nx_rep hT hN hNm hE hr).1, Option.bind_some]
      exact ih (k + 1) n (by omega) (by omega)
theorem ledM {T : StM} {nN nT t : Nat} (hT : nT ≤ 16) (hN : nN ≤ 40) (hNm : gI T 6 = nI nN) (hE : Edg T nN nT) (ht : t < nT) : ∃ z, m_MX_led T (nI t) = some z ∧ Rep z (fun v => v < nT ∧ RCh T nN nT t v) := by
  generalize hx : (1 : Int32) <<< (nI t &&& 31) = x
  have hr0 : Rep x (fun v => v = t) := by rw [← hx]; exact rep_1 (by omega)
  have hr := sq_rep hT hN hNm hE hr0
  have snd : ∀ k v, sqF T nN (fun v => v = t) k v → v < nT ∧ RCh T nN nT t v := by
    intro k
    induction k with
    | zero => rintro v rfl; exact ⟨ht, rch_rf T nN nT v⟩
    | succ k ih => intro v h; exact passF_sound T nN nT t hT hE nN 0 _ (by omega) ih v h
  obtain ⟨k, hk, hs⟩ := grow_stop 16 hT (fun k v => sqF T nN (fun v => v = t) k v) (fun k v h => passF_mono T nN 0 _ v h)
  have eqk : sqL T x (k + 1) = sqL T x k := rep_ext (hr (k + 1)) (hr k) (fun v _ => ⟨fun h => hs v (snd (k + 1) v h).1 h, fun h => passF_mono T nN 0 _ v h⟩)
  have stay : ∀ d, sqL T x (k + d + 1) = sqL T x (k + d) := by
    intro d
    induction d with
    | zero => exact eqk
    | succ d ih => show nxL T (sqL T x (k + d + 1)) = nxL T (sqL T x (k + d)); rw [ih]
  have h18 : sqL T x 18 = sqL T x 17 := by
    have := stay (17 - k)
    rw [show k + (17 - k) = 17 by omega] at this
    exact this
  obtain ⟨m, g1, g2⟩ := led_stop hT hN hNm hE h18 17 0 99 (by omega) (by omega)
  have hne : ¬ x = 0 := by
    intro e
    have := (hr0 t (by omega)).mpr rfl
    rw [e, b_0] at this
    cases this
  refine ⟨sqL T x m, ?_, ?_⟩
  · unfold m_MX_led
    rw [hx, L_MX_led_6, if_neg hne, (nx_rep hT hN hNm hE hr0).1, Option.bind_some]
    rw [show L_MX_led_6 T 99 (nxL T x) x = _ from g1, Option.bind_some]
  · refine rep_iff (hr m) (fun v hv => ⟨snd m v, fun ⟨hv, h⟩ => ?_⟩)
    have closed : ∀ w, w < 32 → (passF T nN 0 (sqF T nN (fun v => v = t) m) w ↔ sqF T nN (fun v => v = t) m w) := by
      intro w hw
      have a1 := (nx_rep hT hN hNm hE (hr m)).2 w hw
      rw [g2] at a1
      exact a1.symm.trans (hr m w hw)
    refine h (fun w => sqF T nN (fun v => v = t) m w) ?_ (fun e f w he hf hw ef ew hh => ?_)
    · have : ∀ k, sqF T nN (fun v => v = t) k t := by
        intro k
        induction k with
        | zero => rfl
        | succ k ih => exact passF_mono T nN 0 _ t ih
      exact this m
    · exact (closed w (by omega)).mp (passF_one T nN 0 _ e f w (Nat.zero_le _) (by omega) ef ew (by omega) (by omega) hh)
theorem readAllM {S : StC} {T : StM} {nS nP nK nQ nT nE nN t : Nat} (h : RelB S T nS nP nK nQ nT nE nN) (ht : t < nT) : ∃ z, m_MX_readAll T (nI t) = some z ∧ Rep z (CLo T nN nT (roT nS nE T) t) := by
  have h0 := h
  obtain ⟨hS, hP, hK, hQ, ⟨hT, hTc, hTm⟩, hE, ⟨hN, hNc, hNm⟩, -⟩ := h
  obtain ⟨a, f1, f2⟩ := ledM hT hN hNm (edg_of h0) ht
  obtain ⟨z, g1, g2⟩ := bitL (fun n x y => L_MX_readAll_11 T a n x y) 0 nT (fun u b => RCh T nN nT t u ∧ roT nS nE T u b) (fun n x => by
    simp only [Nat.zero_add]
    rw [L_MX_readAll_11, hTm, if_pos (nI_le (by omega) (by omega))]) (fun n x u hu => by
    have hb := f2 u (by omega)
    obtain ⟨y, q1, q2⟩ := readAloneM h0 hu
    have hu' : L_MX_readAll_11 T a (n + 1) x (nI u) = if bt a u = true then L_MX_readAll_11 T a n (x ||| y) (nI (u + 1)) else L_MX_readAll_11 T a n (x ||| (0 : Int32)) (nI (u + 1)) := by
      rw [L_MX_readAll_11, hTm, if_neg (nI_ge hu (by omega)), nI_1, q1, Option.bind_some]
      by_cases c : bt a u = true
      · rw [if_pos c, if_pos ((bitM1 a (show u < 31 by omega)).mpr c)]
      · rw [if_neg c, if_neg (fun h => c ((bitM1 a (show u < 31 by omega)).mp h))]
    simp only [Nat.zero_add]
    rw [hu']
    by_cases c : bt a u = true
    · exact ⟨y, by rw [if_pos c], rep_iff q2 (fun b _ => ⟨fun h => ⟨(hb.mp c).2, h⟩, fun h => h.2⟩)⟩
    · exact ⟨0, by rw [if_neg c], rep_iff rep_0 (fun b _ => ⟨False.elim, fun h => c (hb.mpr ⟨hu, h.1⟩)⟩)⟩) nT 0 100 0 (fun _ => False) (by omega) (by omega) (by omega) rep_0
  refine ⟨z, ?_, rep_iff g2 (fun b _ => ?_)⟩
  · unfold m_MX_readAll
    rw [f1, Option.bind_some, show L_MX_readAll_11 T a 100 0 0 = _ from g1, Option.bind_some]
  · rw [clo_rch ht]
    exact ⟨fun h => h.elim False.elim (fun ⟨u, _, h2, h3⟩ => ⟨u, h2, h3⟩), fun ⟨u, h2, h3⟩ => Or.inr ⟨u, Nat.zero_le _, h2, h3⟩⟩
/-- what a TARGET READS, in both -/
theorem readsCM {S : StC} {T : StM} {nS nP nK nQ nT nE nN : Nat} (h : RelB S T nS nP nK nQ nT nE nN) : ∃ g', m_CX_findWhatTargetsRead S = some (pA S 8 g') ∧ ∀ t, t < nT → m_MX_readAll T (nI t) = some (g' t) := by
  obtain ⟨g', f1, f2⟩ := findC h
  refine ⟨g', f1, fun t ht => ?_⟩
  obtain ⟨z, q1, q2⟩ := readAllM h ht
  have : z = g' t := rep_ext q2 (f2 t ht) (fun b _ => (it_clo h.2.2.2.2.1.1 (edg_of h) _ ht).symm)
  rw [q1, this]
theorem op20 : Op20 Rel := by
  intro S T a1 h
  have h0 := h
  obtain ⟨nS, nP, nK, nQ, nT, nE, nN, nR, hall⟩ := h
  obtain ⟨hb, hp⟩ := rel_B hall
  obtain ⟨hS, hP, hK, hQ, ⟨hT, hTc, hTm⟩, -⟩ := id hb
  rcases rng a1 (n := nT) (by omega) with ⟨t, ht, rfl⟩ | hno
  · have tt := thr_yes ht (show nT < 2 ^ 31 by omega)
    obtain ⟨g', f1, f2⟩ := readsCM hb
    refine ⟨g' t, pA S 8 g', ?_, ?_, rel_N (relB_8 hb g') hp⟩
    · simp only [m_CX_reads, cT_e, hTc, tt, Option.bind_some, if_neg one0, f1, inb_nI (show t < 16 by omega) (show (16 : Nat) < 2 ^ 31 by omega), if_true, nI_clamp (show t < 2 ^ 31 by omega), gA_ps]
    · simp only [m_MX_reads, in_e, hTm, tt, Option.bind_some, if_neg one0, f2 t ht]
  · refine ⟨0, S, ?_, ?_, h0⟩
    · simp only [m_CX_reads, cT_e, hTc, thr_no hno, Option.bind_some, if_true]
    · simp only [m_MX_reads, in_e, hTm, thr_no hno, Option.bind_some, if_true]
